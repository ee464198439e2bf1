/-! decode rows: X6 -/
theorem dX6_init_0 : decode cX6_init 0 = .ok (.aload_n 0, 1) := by decide +kernel
theorem dX6_init_1 : decode cX6_init 1 = .ok (.invokespecial 3, 3) := by decide +kernel
theorem dX6_init_4 : decode cX6_init 4 = .ok (.aload_n 0, 1) := by decide +kernel
theorem dX6_init_5 : decode cX6_init 5 = .ok (.sipush 400, 3) := by decide +kernel
theorem dX6_init_8 : decode cX6_init 8 = .ok (.newarray .int, 2) := by decide +kernel
theorem dX6_init_10 : decode cX6_init 10 = .ok (.putfield 9, 3) := by decide +kernel
theorem dX6_init_13 : decode cX6_init 13 = .ok (.return_, 1) := by decide +kernel
theorem dX6_append_0 : decode cX6_append 0 = .ok (.iload_n 3, 1) := by decide +kernel
theorem dX6_append_1 : decode cX6_append 1 = .ok (.iconst 1, 1) := by decide +kernel
theorem dX6_append_2 : decode cX6_append 2 = .ok (.isub, 1) := by decide +kernel
theorem dX6_append_3 : decode cX6_append 3 = .ok (.istore 4, 2) := by decide +kernel
theorem dX6_append_5 : decode cX6_append 5 = .ok (.iload 4, 2) := by decide +kernel
theorem dX6_append_7 : decode cX6_append 7 = .ok (.ifCond .lt 40, 3) := by decide +kernel
theorem dX6_append_10 : decode cX6_append 10 = .ok (.aload_n 0, 1) := by decide +kernel
theorem dX6_append_11 : decode cX6_append 11 = .ok (.getfield 9, 3) := by decide +kernel
theorem dX6_append_14 : decode cX6_append 14 = .ok (.aload_n 0, 1) := by decide +kernel
theorem dX6_append_15 : decode cX6_append 15 = .ok (.getfield 15, 3) := by decide +kernel
theorem dX6_append_18 : decode cX6_append 18 = .ok (.lload_n 1, 1) := by decide +kernel
theorem dX6_append_19 : decode cX6_append 19 = .ok (.bipush 8, 2) := by decide +kernel
theorem dX6_append_21 : decode cX6_append 21 = .ok (.iload 4, 2) := by decide +kernel
theorem dX6_append_23 : decode cX6_append 23 = .ok (.imul, 1) := by decide +kernel
theorem dX6_append_24 : decode cX6_append 24 = .ok (.lushr, 1) := by decide +kernel
theorem dX6_append_25 : decode cX6_append 25 = .ok (.l2i, 1) := by decide +kernel
theorem dX6_append_26 : decode cX6_append 26 = .ok (.sipush 255, 3) := by decide +kernel
theorem dX6_append_29 : decode cX6_append 29 = .ok (.iand, 1) := by decide +kernel
theorem dX6_append_30 : decode cX6_append 30 = .ok (.iastore, 1) := by decide +kernel
theorem dX6_append_31 : decode cX6_append 31 = .ok (.aload_n 0, 1) := by decide +kernel
theorem dX6_append_32 : decode cX6_append 32 = .ok (.dup, 1) := by decide +kernel
theorem dX6_append_33 : decode cX6_append 33 = .ok (.getfield 15, 3) := by decide +kernel
theorem dX6_append_36 : decode cX6_append 36 = .ok (.iconst 1, 1) := by decide +kernel
theorem dX6_append_37 : decode cX6_append 37 = .ok (.iadd, 1) := by decide +kernel
theorem dX6_append_38 : decode cX6_append 38 = .ok (.putfield 15, 3) := by decide +kernel
theorem dX6_append_41 : decode cX6_append 41 = .ok (.iinc 4 (-1), 3) := by decide +kernel
theorem dX6_append_44 : decode cX6_append 44 = .ok (.goto (-39), 3) := by decide +kernel
theorem dX6_append_47 : decode cX6_append 47 = .ok (.return_, 1) := by decide +kernel
theorem dX6_rewind_0 : decode cX6_rewind 0 = .ok (.aload_n 0, 1) := by decide +kernel
theorem dX6_rewind_1 : decode cX6_rewind 1 = .ok (.iconst 0, 1) := by decide +kernel
theorem dX6_rewind_2 : decode cX6_rewind 2 = .ok (.putfield 19, 3) := by decide +kernel
theorem dX6_rewind_5 : decode cX6_rewind 5 = .ok (.aload_n 0, 1) := by decide +kernel
theorem dX6_rewind_6 : decode cX6_rewind 6 = .ok (.invokevirtual 22, 3) := by decide +kernel
theorem dX6_rewind_9 : decode cX6_rewind 9 = .ok (.return_, 1) := by decide +kernel
theorem dX6_step_0 : decode cX6_step 0 = .ok (.aload_n 0, 1) := by decide +kernel
theorem dX6_step_1 : decode cX6_step 1 = .ok (.getfield 19, 3) := by decide +kernel
theorem dX6_step_4 : decode cX6_step 4 = .ok (.aload_n 0, 1) := by decide +kernel
theorem dX6_step_5 : decode cX6_step 5 = .ok (.getfield 15, 3) := by decide +kernel
theorem dX6_step_8 : decode cX6_step 8 = .ok (.if_icmp .ge 31, 3) := by decide +kernel
theorem dX6_step_11 : decode cX6_step 11 = .ok (.aload_n 0, 1) := by decide +kernel
theorem dX6_step_12 : decode cX6_step 12 = .ok (.getfield 9, 3) := by decide +kernel
theorem dX6_step_15 : decode cX6_step 15 = .ok (.aload_n 0, 1) := by decide +kernel
theorem dX6_step_16 : decode cX6_step 16 = .ok (.getfield 19, 3) := by decide +kernel
theorem dX6_step_19 : decode cX6_step 19 = .ok (.iaload, 1) := by decide +kernel
theorem dX6_step_20 : decode cX6_step 20 = .ok (.invokestatic 25, 3) := by decide +kernel
theorem dX6_step_23 : decode cX6_step 23 = .ok (.ifCond .eq 16, 3) := by decide +kernel
theorem dX6_step_26 : decode cX6_step 26 = .ok (.aload_n 0, 1) := by decide +kernel
theorem dX6_step_27 : decode cX6_step 27 = .ok (.dup, 1) := by decide +kernel
theorem dX6_step_28 : decode cX6_step 28 = .ok (.getfield 19, 3) := by decide +kernel
theorem dX6_step_31 : decode cX6_step 31 = .ok (.iconst 1, 1) := by decide +kernel
theorem dX6_step_32 : decode cX6_step 32 = .ok (.iadd, 1) := by decide +kernel
theorem dX6_step_33 : decode cX6_step 33 = .ok (.putfield 19, 3) := by decide +kernel
theorem dX6_step_36 : decode cX6_step 36 = .ok (.goto (-36), 3) := by decide +kernel
theorem dX6_step_39 : decode cX6_step 39 = .ok (.aload_n 0, 1) := by decide +kernel
theorem dX6_step_40 : decode cX6_step 40 = .ok (.aload_n 0, 1) := by decide +kernel
theorem dX6_step_41 : decode cX6_step 41 = .ok (.getfield 19, 3) := by decide +kernel
theorem dX6_step_44 : decode cX6_step 44 = .ok (.putfield 29, 3) := by decide +kernel
theorem dX6_step_47 : decode cX6_step 47 = .ok (.aload_n 0, 1) := by decide +kernel
theorem dX6_step_48 : decode cX6_step 48 = .ok (.getfield 19, 3) := by decide +kernel
theorem dX6_step_51 : decode cX6_step 51 = .ok (.aload_n 0, 1) := by decide +kernel
theorem dX6_step_52 : decode cX6_step 52 = .ok (.getfield 15, 3) := by decide +kernel
theorem dX6_step_55 : decode cX6_step 55 = .ok (.if_icmp .lt 11, 3) := by decide +kernel
theorem dX6_step_58 : decode cX6_step 58 = .ok (.aload_n 0, 1) := by decide +kernel
theorem dX6_step_59 : decode cX6_step 59 = .ok (.iconst 0, 1) := by decide +kernel
theorem dX6_step_60 : decode cX6_step 60 = .ok (.putfield 32, 3) := by decide +kernel
theorem dX6_step_63 : decode cX6_step 63 = .ok (.goto 80, 3) := by decide +kernel
theorem dX6_step_66 : decode cX6_step 66 = .ok (.aload_n 0, 1) := by decide +kernel
theorem dX6_step_67 : decode cX6_step 67 = .ok (.getfield 9, 3) := by decide +kernel
theorem dX6_step_70 : decode cX6_step 70 = .ok (.aload_n 0, 1) := by decide +kernel
theorem dX6_step_71 : decode cX6_step 71 = .ok (.getfield 19, 3) := by decide +kernel
theorem dX6_step_74 : decode cX6_step 74 = .ok (.iaload, 1) := by decide +kernel
theorem dX6_step_75 : decode cX6_step 75 = .ok (.invokestatic 35, 3) := by decide +kernel
theorem dX6_step_78 : decode cX6_step 78 = .ok (.ifCond .eq 10, 3) := by decide +kernel
theorem dX6_step_81 : decode cX6_step 81 = .ok (.aload_n 0, 1) := by decide +kernel
theorem dX6_step_82 : decode cX6_step 82 = .ok (.invokevirtual 38, 3) := by decide +kernel
theorem dX6_step_85 : decode cX6_step 85 = .ok (.goto 58, 3) := by decide +kernel
theorem dX6_step_88 : decode cX6_step 88 = .ok (.aload_n 0, 1) := by decide +kernel
theorem dX6_step_89 : decode cX6_step 89 = .ok (.getfield 9, 3) := by decide +kernel
theorem dX6_step_92 : decode cX6_step 92 = .ok (.aload_n 0, 1) := by decide +kernel
theorem dX6_step_93 : decode cX6_step 93 = .ok (.getfield 19, 3) := by decide +kernel
theorem dX6_step_96 : decode cX6_step 96 = .ok (.iaload, 1) := by decide +kernel
theorem dX6_step_97 : decode cX6_step 97 = .ok (.invokestatic 41, 3) := by decide +kernel
theorem dX6_step_100 : decode cX6_step 100 = .ok (.ifCond .eq 10, 3) := by decide +kernel
theorem dX6_step_103 : decode cX6_step 103 = .ok (.aload_n 0, 1) := by decide +kernel
theorem dX6_step_104 : decode cX6_step 104 = .ok (.invokevirtual 44, 3) := by decide +kernel
theorem dX6_step_107 : decode cX6_step 107 = .ok (.goto 36, 3) := by decide +kernel
theorem dX6_step_110 : decode cX6_step 110 = .ok (.aload_n 0, 1) := by decide +kernel
theorem dX6_step_111 : decode cX6_step 111 = .ok (.aload_n 0, 1) := by decide +kernel
theorem dX6_step_112 : decode cX6_step 112 = .ok (.getfield 9, 3) := by decide +kernel
theorem dX6_step_115 : decode cX6_step 115 = .ok (.aload_n 0, 1) := by decide +kernel
theorem dX6_step_116 : decode cX6_step 116 = .ok (.getfield 19, 3) := by decide +kernel
theorem dX6_step_119 : decode cX6_step 119 = .ok (.iaload, 1) := by decide +kernel
theorem dX6_step_120 : decode cX6_step 120 = .ok (.bipush 59, 2) := by decide +kernel
theorem dX6_step_122 : decode cX6_step 122 = .ok (.if_icmp .ne 7, 3) := by decide +kernel
theorem dX6_step_125 : decode cX6_step 125 = .ok (.iconst 3, 1) := by decide +kernel
theorem dX6_step_126 : decode cX6_step 126 = .ok (.goto 4, 3) := by decide +kernel
theorem dX6_step_129 : decode cX6_step 129 = .ok (.iconst 4, 1) := by decide +kernel
theorem dX6_step_130 : decode cX6_step 130 = .ok (.putfield 32, 3) := by decide +kernel
theorem dX6_step_133 : decode cX6_step 133 = .ok (.aload_n 0, 1) := by decide +kernel
theorem dX6_step_134 : decode cX6_step 134 = .ok (.dup, 1) := by decide +kernel
theorem dX6_step_135 : decode cX6_step 135 = .ok (.getfield 19, 3) := by decide +kernel
theorem dX6_step_138 : decode cX6_step 138 = .ok (.iconst 1, 1) := by decide +kernel
theorem dX6_step_139 : decode cX6_step 139 = .ok (.iadd, 1) := by decide +kernel
theorem dX6_step_140 : decode cX6_step 140 = .ok (.putfield 19, 3) := by decide +kernel
theorem dX6_step_143 : decode cX6_step 143 = .ok (.return_, 1) := by decide +kernel
theorem dX6_isWord_0 : decode cX6_isWord 0 = .ok (.aload_n 0, 1) := by decide +kernel
theorem dX6_isWord_1 : decode cX6_isWord 1 = .ok (.getfield 32, 3) := by decide +kernel
theorem dX6_isWord_4 : decode cX6_isWord 4 = .ok (.iconst 1, 1) := by decide +kernel
theorem dX6_isWord_5 : decode cX6_isWord 5 = .ok (.if_icmp .ne 19, 3) := by decide +kernel
theorem dX6_isWord_8 : decode cX6_isWord 8 = .ok (.aload_n 0, 1) := by decide +kernel
theorem dX6_isWord_9 : decode cX6_isWord 9 = .ok (.getfield 19, 3) := by decide +kernel
theorem dX6_isWord_12 : decode cX6_isWord 12 = .ok (.aload_n 0, 1) := by decide +kernel
theorem dX6_isWord_13 : decode cX6_isWord 13 = .ok (.getfield 29, 3) := by decide +kernel
theorem dX6_isWord_16 : decode cX6_isWord 16 = .ok (.isub, 1) := by decide +kernel
theorem dX6_isWord_17 : decode cX6_isWord 17 = .ok (.aload_n 1, 1) := by decide +kernel
theorem dX6_isWord_18 : decode cX6_isWord 18 = .ok (.invokevirtual 47, 3) := by decide +kernel
theorem dX6_isWord_21 : decode cX6_isWord 21 = .ok (.if_icmp .eq 5, 3) := by decide +kernel
theorem dX6_isWord_24 : decode cX6_isWord 24 = .ok (.iconst 0, 1) := by decide +kernel
theorem dX6_isWord_25 : decode cX6_isWord 25 = .ok (.ireturn, 1) := by decide +kernel
theorem dX6_isWord_26 : decode cX6_isWord 26 = .ok (.iconst 0, 1) := by decide +kernel
theorem dX6_isWord_27 : decode cX6_isWord 27 = .ok (.istore_n 2, 1) := by decide +kernel
theorem dX6_isWord_28 : decode cX6_isWord 28 = .ok (.iload_n 2, 1) := by decide +kernel
theorem dX6_isWord_29 : decode cX6_isWord 29 = .ok (.aload_n 1, 1) := by decide +kernel
theorem dX6_isWord_30 : decode cX6_isWord 30 = .ok (.invokevirtual 47, 3) := by decide +kernel
theorem dX6_isWord_33 : decode cX6_isWord 33 = .ok (.if_icmp .ge 30, 3) := by decide +kernel
theorem dX6_isWord_36 : decode cX6_isWord 36 = .ok (.aload_n 0, 1) := by decide +kernel
theorem dX6_isWord_37 : decode cX6_isWord 37 = .ok (.getfield 9, 3) := by decide +kernel
theorem dX6_isWord_40 : decode cX6_isWord 40 = .ok (.aload_n 0, 1) := by decide +kernel
theorem dX6_isWord_41 : decode cX6_isWord 41 = .ok (.getfield 29, 3) := by decide +kernel
theorem dX6_isWord_44 : decode cX6_isWord 44 = .ok (.iload_n 2, 1) := by decide +kernel
theorem dX6_isWord_45 : decode cX6_isWord 45 = .ok (.iadd, 1) := by decide +kernel
theorem dX6_isWord_46 : decode cX6_isWord 46 = .ok (.iaload, 1) := by decide +kernel
theorem dX6_isWord_47 : decode cX6_isWord 47 = .ok (.aload_n 1, 1) := by decide +kernel
theorem dX6_isWord_48 : decode cX6_isWord 48 = .ok (.iload_n 2, 1) := by decide +kernel
theorem dX6_isWord_49 : decode cX6_isWord 49 = .ok (.invokevirtual 53, 3) := by decide +kernel
theorem dX6_isWord_52 : decode cX6_isWord 52 = .ok (.if_icmp .eq 5, 3) := by decide +kernel
theorem dX6_isWord_55 : decode cX6_isWord 55 = .ok (.iconst 0, 1) := by decide +kernel
theorem dX6_isWord_56 : decode cX6_isWord 56 = .ok (.ireturn, 1) := by decide +kernel
theorem dX6_isWord_57 : decode cX6_isWord 57 = .ok (.iinc 2 1, 3) := by decide +kernel
theorem dX6_isWord_60 : decode cX6_isWord 60 = .ok (.goto (-32), 3) := by decide +kernel
theorem dX6_isWord_63 : decode cX6_isWord 63 = .ok (.iconst 1, 1) := by decide +kernel
theorem dX6_isWord_64 : decode cX6_isWord 64 = .ok (.ireturn, 1) := by decide +kernel
theorem dX6_passLetters_0 : decode cX6_passLetters 0 = .ok (.aload_n 0, 1) := by decide +kernel
theorem dX6_passLetters_1 : decode cX6_passLetters 1 = .ok (.iconst 1, 1) := by decide +kernel
theorem dX6_passLetters_2 : decode cX6_passLetters 2 = .ok (.putfield 32, 3) := by decide +kernel
theorem dX6_passLetters_5 : decode cX6_passLetters 5 = .ok (.aload_n 0, 1) := by decide +kernel
theorem dX6_passLetters_6 : decode cX6_passLetters 6 = .ok (.getfield 19, 3) := by decide +kernel
theorem dX6_passLetters_9 : decode cX6_passLetters 9 = .ok (.aload_n 0, 1) := by decide +kernel
theorem dX6_passLetters_10 : decode cX6_passLetters 10 = .ok (.getfield 15, 3) := by decide +kernel
theorem dX6_passLetters_13 : decode cX6_passLetters 13 = .ok (.if_icmp .ge 31, 3) := by decide +kernel
theorem dX6_passLetters_16 : decode cX6_passLetters 16 = .ok (.aload_n 0, 1) := by decide +kernel
theorem dX6_passLetters_17 : decode cX6_passLetters 17 = .ok (.getfield 9, 3) := by decide +kernel
theorem dX6_passLetters_20 : decode cX6_passLetters 20 = .ok (.aload_n 0, 1) := by decide +kernel
theorem dX6_passLetters_21 : decode cX6_passLetters 21 = .ok (.getfield 19, 3) := by decide +kernel
theorem dX6_passLetters_24 : decode cX6_passLetters 24 = .ok (.iaload, 1) := by decide +kernel
theorem dX6_passLetters_25 : decode cX6_passLetters 25 = .ok (.invokestatic 35, 3) := by decide +kernel
theorem dX6_passLetters_28 : decode cX6_passLetters 28 = .ok (.ifCond .eq 16, 3) := by decide +kernel
theorem dX6_passLetters_31 : decode cX6_passLetters 31 = .ok (.aload_n 0, 1) := by decide +kernel
theorem dX6_passLetters_32 : decode cX6_passLetters 32 = .ok (.dup, 1) := by decide +kernel
theorem dX6_passLetters_33 : decode cX6_passLetters 33 = .ok (.getfield 19, 3) := by decide +kernel
theorem dX6_passLetters_36 : decode cX6_passLetters 36 = .ok (.iconst 1, 1) := by decide +kernel
theorem dX6_passLetters_37 : decode cX6_passLetters 37 = .ok (.iadd, 1) := by decide +kernel
theorem dX6_passLetters_38 : decode cX6_passLetters 38 = .ok (.putfield 19, 3) := by decide +kernel
theorem dX6_passLetters_41 : decode cX6_passLetters 41 = .ok (.goto (-36), 3) := by decide +kernel
theorem dX6_passLetters_44 : decode cX6_passLetters 44 = .ok (.return_, 1) := by decide +kernel
theorem dX6_passFigures_0 : decode cX6_passFigures 0 = .ok (.aload_n 0, 1) := by decide +kernel
theorem dX6_passFigures_1 : decode cX6_passFigures 1 = .ok (.iconst 0, 1) := by decide +kernel
theorem dX6_passFigures_2 : decode cX6_passFigures 2 = .ok (.putfield 57, 3) := by decide +kernel
theorem dX6_passFigures_5 : decode cX6_passFigures 5 = .ok (.aload_n 0, 1) := by decide +kernel
theorem dX6_passFigures_6 : decode cX6_passFigures 6 = .ok (.getfield 19, 3) := by decide +kernel
theorem dX6_passFigures_9 : decode cX6_passFigures 9 = .ok (.aload_n 0, 1) := by decide +kernel
theorem dX6_passFigures_10 : decode cX6_passFigures 10 = .ok (.getfield 15, 3) := by decide +kernel
theorem dX6_passFigures_13 : decode cX6_passFigures 13 = .ok (.if_icmp .ge 68, 3) := by decide +kernel
theorem dX6_passFigures_16 : decode cX6_passFigures 16 = .ok (.aload_n 0, 1) := by decide +kernel
theorem dX6_passFigures_17 : decode cX6_passFigures 17 = .ok (.getfield 9, 3) := by decide +kernel
theorem dX6_passFigures_20 : decode cX6_passFigures 20 = .ok (.aload_n 0, 1) := by decide +kernel
theorem dX6_passFigures_21 : decode cX6_passFigures 21 = .ok (.getfield 19, 3) := by decide +kernel
theorem dX6_passFigures_24 : decode cX6_passFigures 24 = .ok (.iaload, 1) := by decide +kernel
theorem dX6_passFigures_25 : decode cX6_passFigures 25 = .ok (.invokestatic 41, 3) := by decide +kernel
theorem dX6_passFigures_28 : decode cX6_passFigures 28 = .ok (.ifCond .eq 53, 3) := by decide +kernel
theorem dX6_passFigures_31 : decode cX6_passFigures 31 = .ok (.aload_n 0, 1) := by decide +kernel
theorem dX6_passFigures_32 : decode cX6_passFigures 32 = .ok (.getfield 19, 3) := by decide +kernel
theorem dX6_passFigures_35 : decode cX6_passFigures 35 = .ok (.aload_n 0, 1) := by decide +kernel
theorem dX6_passFigures_36 : decode cX6_passFigures 36 = .ok (.getfield 29, 3) := by decide +kernel
theorem dX6_passFigures_39 : decode cX6_passFigures 39 = .ok (.isub, 1) := by decide +kernel
theorem dX6_passFigures_40 : decode cX6_passFigures 40 = .ok (.iconst 3, 1) := by decide +kernel
theorem dX6_passFigures_41 : decode cX6_passFigures 41 = .ok (.if_icmp .ge 27, 3) := by decide +kernel
theorem dX6_passFigures_44 : decode cX6_passFigures 44 = .ok (.aload_n 0, 1) := by decide +kernel
theorem dX6_passFigures_45 : decode cX6_passFigures 45 = .ok (.aload_n 0, 1) := by decide +kernel
theorem dX6_passFigures_46 : decode cX6_passFigures 46 = .ok (.getfield 57, 3) := by decide +kernel
theorem dX6_passFigures_49 : decode cX6_passFigures 49 = .ok (.bipush 10, 2) := by decide +kernel
theorem dX6_passFigures_51 : decode cX6_passFigures 51 = .ok (.imul, 1) := by decide +kernel
theorem dX6_passFigures_52 : decode cX6_passFigures 52 = .ok (.aload_n 0, 1) := by decide +kernel
theorem dX6_passFigures_53 : decode cX6_passFigures 53 = .ok (.getfield 9, 3) := by decide +kernel
theorem dX6_passFigures_56 : decode cX6_passFigures 56 = .ok (.aload_n 0, 1) := by decide +kernel
theorem dX6_passFigures_57 : decode cX6_passFigures 57 = .ok (.getfield 19, 3) := by decide +kernel
theorem dX6_passFigures_60 : decode cX6_passFigures 60 = .ok (.iaload, 1) := by decide +kernel
theorem dX6_passFigures_61 : decode cX6_passFigures 61 = .ok (.iadd, 1) := by decide +kernel
theorem dX6_passFigures_62 : decode cX6_passFigures 62 = .ok (.bipush 48, 2) := by decide +kernel
theorem dX6_passFigures_64 : decode cX6_passFigures 64 = .ok (.isub, 1) := by decide +kernel
theorem dX6_passFigures_65 : decode cX6_passFigures 65 = .ok (.putfield 57, 3) := by decide +kernel
theorem dX6_passFigures_68 : decode cX6_passFigures 68 = .ok (.aload_n 0, 1) := by decide +kernel
theorem dX6_passFigures_69 : decode cX6_passFigures 69 = .ok (.dup, 1) := by decide +kernel
theorem dX6_passFigures_70 : decode cX6_passFigures 70 = .ok (.getfield 19, 3) := by decide +kernel
theorem dX6_passFigures_73 : decode cX6_passFigures 73 = .ok (.iconst 1, 1) := by decide +kernel
theorem dX6_passFigures_74 : decode cX6_passFigures 74 = .ok (.iadd, 1) := by decide +kernel
theorem dX6_passFigures_75 : decode cX6_passFigures 75 = .ok (.putfield 19, 3) := by decide +kernel
theorem dX6_passFigures_78 : decode cX6_passFigures 78 = .ok (.goto (-73), 3) := by decide +kernel
theorem dX6_passFigures_81 : decode cX6_passFigures 81 = .ok (.aload_n 0, 1) := by decide +kernel
theorem dX6_passFigures_82 : decode cX6_passFigures 82 = .ok (.aload_n 0, 1) := by decide +kernel
theorem dX6_passFigures_83 : decode cX6_passFigures 83 = .ok (.getfield 19, 3) := by decide +kernel
theorem dX6_passFigures_86 : decode cX6_passFigures 86 = .ok (.aload_n 0, 1) := by decide +kernel
theorem dX6_passFigures_87 : decode cX6_passFigures 87 = .ok (.getfield 29, 3) := by decide +kernel
theorem dX6_passFigures_90 : decode cX6_passFigures 90 = .ok (.isub, 1) := by decide +kernel
theorem dX6_passFigures_91 : decode cX6_passFigures 91 = .ok (.iconst 3, 1) := by decide +kernel
theorem dX6_passFigures_92 : decode cX6_passFigures 92 = .ok (.if_icmp .gt 7, 3) := by decide +kernel
theorem dX6_passFigures_95 : decode cX6_passFigures 95 = .ok (.iconst 2, 1) := by decide +kernel
theorem dX6_passFigures_96 : decode cX6_passFigures 96 = .ok (.goto 4, 3) := by decide +kernel
theorem dX6_passFigures_99 : decode cX6_passFigures 99 = .ok (.iconst 4, 1) := by decide +kernel
theorem dX6_passFigures_100 : decode cX6_passFigures 100 = .ok (.putfield 32, 3) := by decide +kernel
theorem dX6_passFigures_103 : decode cX6_passFigures 103 = .ok (.return_, 1) := by decide +kernel
theorem dX6_isBlank_0 : decode cX6_isBlank 0 = .ok (.iload_n 0, 1) := by decide +kernel
theorem dX6_isBlank_1 : decode cX6_isBlank 1 = .ok (.bipush 32, 2) := by decide +kernel
theorem dX6_isBlank_3 : decode cX6_isBlank 3 = .ok (.if_icmp .eq 9, 3) := by decide +kernel
theorem dX6_isBlank_6 : decode cX6_isBlank 6 = .ok (.iload_n 0, 1) := by decide +kernel
theorem dX6_isBlank_7 : decode cX6_isBlank 7 = .ok (.bipush 10, 2) := by decide +kernel
theorem dX6_isBlank_9 : decode cX6_isBlank 9 = .ok (.if_icmp .ne 7, 3) := by decide +kernel
theorem dX6_isBlank_12 : decode cX6_isBlank 12 = .ok (.iconst 1, 1) := by decide +kernel
theorem dX6_isBlank_13 : decode cX6_isBlank 13 = .ok (.goto 4, 3) := by decide +kernel
theorem dX6_isBlank_16 : decode cX6_isBlank 16 = .ok (.iconst 0, 1) := by decide +kernel
theorem dX6_isBlank_17 : decode cX6_isBlank 17 = .ok (.ireturn, 1) := by decide +kernel
theorem dX6_isLetter_0 : decode cX6_isLetter 0 = .ok (.iload_n 0, 1) := by decide +kernel
theorem dX6_isLetter_1 : decode cX6_isLetter 1 = .ok (.bipush 97, 2) := by decide +kernel
theorem dX6_isLetter_3 : decode cX6_isLetter 3 = .ok (.if_icmp .lt 13, 3) := by decide +kernel
theorem dX6_isLetter_6 : decode cX6_isLetter 6 = .ok (.iload_n 0, 1) := by decide +kernel
theorem dX6_isLetter_7 : decode cX6_isLetter 7 = .ok (.bipush 122, 2) := by decide +kernel
theorem dX6_isLetter_9 : decode cX6_isLetter 9 = .ok (.if_icmp .gt 7, 3) := by decide +kernel
theorem dX6_isLetter_12 : decode cX6_isLetter 12 = .ok (.iconst 1, 1) := by decide +kernel
theorem dX6_isLetter_13 : decode cX6_isLetter 13 = .ok (.goto 4, 3) := by decide +kernel
theorem dX6_isLetter_16 : decode cX6_isLetter 16 = .ok (.iconst 0, 1) := by decide +kernel
theorem dX6_isLetter_17 : decode cX6_isLetter 17 = .ok (.ireturn, 1) := by decide +kernel
theorem dX6_isFigure_0 : decode cX6_isFigure 0 = .ok (.iload_n 0, 1) := by decide +kernel
theorem dX6_isFigure_1 : decode cX6_isFigure 1 = .ok (.bipush 48, 2) := by decide +kernel
theorem dX6_isFigure_3 : decode cX6_isFigure 3 = .ok (.if_icmp .lt 13, 3) := by decide +kernel
theorem dX6_isFigure_6 : decode cX6_isFigure 6 = .ok (.iload_n 0, 1) := by decide +kernel
theorem dX6_isFigure_7 : decode cX6_isFigure 7 = .ok (.bipush 57, 2) := by decide +kernel
theorem dX6_isFigure_9 : decode cX6_isFigure 9 = .ok (.if_icmp .gt 7, 3) := by decide +kernel
theorem dX6_isFigure_12 : decode cX6_isFigure 12 = .ok (.iconst 1, 1) := by decide +kernel
theorem dX6_isFigure_13 : decode cX6_isFigure 13 = .ok (.goto 4, 3) := by decide +kernel
theorem dX6_isFigure_16 : decode cX6_isFigure 16 = .ok (.iconst 0, 1) := by decide +kernel
theorem dX6_isFigure_17 : decode cX6_isFigure 17 = .ok (.ireturn, 1) := by decide +kernel
