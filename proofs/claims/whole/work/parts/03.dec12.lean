/-! decode rows: X8 -/
theorem dX8_goBell_116 : decode cX8_goBell 116 = .ok (.aload_n 0, 1) := by decide +kernel
theorem dX8_goBell_117 : decode cX8_goBell 117 = .ok (.dup, 1) := by decide +kernel
theorem dX8_goBell_118 : decode cX8_goBell 118 = .ok (.getfield 192, 3) := by decide +kernel
theorem dX8_goBell_121 : decode cX8_goBell 121 = .ok (.iconst 1, 1) := by decide +kernel
theorem dX8_goBell_122 : decode cX8_goBell 122 = .ok (.iadd, 1) := by decide +kernel
theorem dX8_goBell_123 : decode cX8_goBell 123 = .ok (.putfield 192, 3) := by decide +kernel
theorem dX8_goBell_126 : decode cX8_goBell 126 = .ok (.iload_n 1, 1) := by decide +kernel
theorem dX8_goBell_127 : decode cX8_goBell 127 = .ok (.ireturn, 1) := by decide +kernel
theorem dX8_goBells_0 : decode cX8_goBells 0 = .ok (.iconst 0, 1) := by decide +kernel
theorem dX8_goBells_1 : decode cX8_goBells 1 = .ok (.istore_n 2, 1) := by decide +kernel
theorem dX8_goBells_2 : decode cX8_goBells 2 = .ok (.iload_n 2, 1) := by decide +kernel
theorem dX8_goBells_3 : decode cX8_goBells 3 = .ok (.iload_n 1, 1) := by decide +kernel
theorem dX8_goBells_4 : decode cX8_goBells 4 = .ok (.if_icmp .ge 14, 3) := by decide +kernel
theorem dX8_goBells_7 : decode cX8_goBells 7 = .ok (.aload_n 0, 1) := by decide +kernel
theorem dX8_goBells_8 : decode cX8_goBells 8 = .ok (.invokevirtual 213, 3) := by decide +kernel
theorem dX8_goBells_11 : decode cX8_goBells 11 = .ok (.istore_n 3, 1) := by decide +kernel
theorem dX8_goBells_12 : decode cX8_goBells 12 = .ok (.iinc 2 1, 3) := by decide +kernel
theorem dX8_goBells_15 : decode cX8_goBells 15 = .ok (.goto (-13), 3) := by decide +kernel
theorem dX8_goBells_18 : decode cX8_goBells 18 = .ok (.return_, 1) := by decide +kernel
theorem dX8_keep_0 : decode cX8_keep 0 = .ok (.aload_n 0, 1) := by decide +kernel
theorem dX8_keep_1 : decode cX8_keep 1 = .ok (.getfield 189, 3) := by decide +kernel
theorem dX8_keep_4 : decode cX8_keep 4 = .ok (.bipush 24, 2) := by decide +kernel
theorem dX8_keep_6 : decode cX8_keep 6 = .ok (.if_icmp .ne 43, 3) := by decide +kernel
theorem dX8_keep_9 : decode cX8_keep 9 = .ok (.iconst 0, 1) := by decide +kernel
theorem dX8_keep_10 : decode cX8_keep 10 = .ok (.istore_n 1, 1) := by decide +kernel
theorem dX8_keep_11 : decode cX8_keep 11 = .ok (.iload_n 1, 1) := by decide +kernel
theorem dX8_keep_12 : decode cX8_keep 12 = .ok (.sipush 851, 3) := by decide +kernel
theorem dX8_keep_15 : decode cX8_keep 15 = .ok (.if_icmp .ge 24, 3) := by decide +kernel
theorem dX8_keep_18 : decode cX8_keep 18 = .ok (.aload_n 0, 1) := by decide +kernel
theorem dX8_keep_19 : decode cX8_keep 19 = .ok (.getfield 25, 3) := by decide +kernel
theorem dX8_keep_22 : decode cX8_keep 22 = .ok (.iload_n 1, 1) := by decide +kernel
theorem dX8_keep_23 : decode cX8_keep 23 = .ok (.aload_n 0, 1) := by decide +kernel
theorem dX8_keep_24 : decode cX8_keep 24 = .ok (.getfield 25, 3) := by decide +kernel
theorem dX8_keep_27 : decode cX8_keep 27 = .ok (.iload_n 1, 1) := by decide +kernel
theorem dX8_keep_28 : decode cX8_keep 28 = .ok (.bipush 37, 2) := by decide +kernel
theorem dX8_keep_30 : decode cX8_keep 30 = .ok (.iadd, 1) := by decide +kernel
theorem dX8_keep_31 : decode cX8_keep 31 = .ok (.iaload, 1) := by decide +kernel
theorem dX8_keep_32 : decode cX8_keep 32 = .ok (.iastore, 1) := by decide +kernel
theorem dX8_keep_33 : decode cX8_keep 33 = .ok (.iinc 1 1, 3) := by decide +kernel
theorem dX8_keep_36 : decode cX8_keep 36 = .ok (.goto (-25), 3) := by decide +kernel
theorem dX8_keep_39 : decode cX8_keep 39 = .ok (.aload_n 0, 1) := by decide +kernel
theorem dX8_keep_40 : decode cX8_keep 40 = .ok (.dup, 1) := by decide +kernel
theorem dX8_keep_41 : decode cX8_keep 41 = .ok (.getfield 189, 3) := by decide +kernel
theorem dX8_keep_44 : decode cX8_keep 44 = .ok (.iconst 1, 1) := by decide +kernel
theorem dX8_keep_45 : decode cX8_keep 45 = .ok (.isub, 1) := by decide +kernel
theorem dX8_keep_46 : decode cX8_keep 46 = .ok (.putfield 189, 3) := by decide +kernel
theorem dX8_keep_49 : decode cX8_keep 49 = .ok (.iconst 0, 1) := by decide +kernel
theorem dX8_keep_50 : decode cX8_keep 50 = .ok (.istore_n 1, 1) := by decide +kernel
theorem dX8_keep_51 : decode cX8_keep 51 = .ok (.iload_n 1, 1) := by decide +kernel
theorem dX8_keep_52 : decode cX8_keep 52 = .ok (.bipush 37, 2) := by decide +kernel
theorem dX8_keep_54 : decode cX8_keep 54 = .ok (.if_icmp .ge 29, 3) := by decide +kernel
theorem dX8_keep_57 : decode cX8_keep 57 = .ok (.aload_n 0, 1) := by decide +kernel
theorem dX8_keep_58 : decode cX8_keep 58 = .ok (.getfield 25, 3) := by decide +kernel
theorem dX8_keep_61 : decode cX8_keep 61 = .ok (.bipush 37, 2) := by decide +kernel
theorem dX8_keep_63 : decode cX8_keep 63 = .ok (.aload_n 0, 1) := by decide +kernel
theorem dX8_keep_64 : decode cX8_keep 64 = .ok (.getfield 189, 3) := by decide +kernel
theorem dX8_keep_67 : decode cX8_keep 67 = .ok (.imul, 1) := by decide +kernel
theorem dX8_keep_68 : decode cX8_keep 68 = .ok (.iload_n 1, 1) := by decide +kernel
theorem dX8_keep_69 : decode cX8_keep 69 = .ok (.iadd, 1) := by decide +kernel
theorem dX8_keep_70 : decode cX8_keep 70 = .ok (.aload_n 0, 1) := by decide +kernel
theorem dX8_keep_71 : decode cX8_keep 71 = .ok (.getfield 19, 3) := by decide +kernel
theorem dX8_keep_74 : decode cX8_keep 74 = .ok (.iload_n 1, 1) := by decide +kernel
theorem dX8_keep_75 : decode cX8_keep 75 = .ok (.iaload, 1) := by decide +kernel
theorem dX8_keep_76 : decode cX8_keep 76 = .ok (.iastore, 1) := by decide +kernel
theorem dX8_keep_77 : decode cX8_keep 77 = .ok (.iinc 1 1, 3) := by decide +kernel
theorem dX8_keep_80 : decode cX8_keep 80 = .ok (.goto (-29), 3) := by decide +kernel
theorem dX8_keep_83 : decode cX8_keep 83 = .ok (.aload_n 0, 1) := by decide +kernel
theorem dX8_keep_84 : decode cX8_keep 84 = .ok (.dup, 1) := by decide +kernel
theorem dX8_keep_85 : decode cX8_keep 85 = .ok (.getfield 189, 3) := by decide +kernel
theorem dX8_keep_88 : decode cX8_keep 88 = .ok (.iconst 1, 1) := by decide +kernel
theorem dX8_keep_89 : decode cX8_keep 89 = .ok (.iadd, 1) := by decide +kernel
theorem dX8_keep_90 : decode cX8_keep 90 = .ok (.putfield 189, 3) := by decide +kernel
theorem dX8_keep_93 : decode cX8_keep 93 = .ok (.return_, 1) := by decide +kernel
theorem dX8_ring_0 : decode cX8_ring 0 = .ok (.aload_n 0, 1) := by decide +kernel
theorem dX8_ring_1 : decode cX8_ring 1 = .ok (.invokevirtual 216, 3) := by decide +kernel
theorem dX8_ring_4 : decode cX8_ring 4 = .ok (.aload_n 0, 1) := by decide +kernel
theorem dX8_ring_5 : decode cX8_ring 5 = .ok (.invokevirtual 219, 3) := by decide +kernel
theorem dX8_ring_8 : decode cX8_ring 8 = .ok (.aload_n 0, 1) := by decide +kernel
theorem dX8_ring_9 : decode cX8_ring 9 = .ok (.invokevirtual 213, 3) := by decide +kernel
theorem dX8_ring_12 : decode cX8_ring 12 = .ok (.istore_n 1, 1) := by decide +kernel
theorem dX8_ring_13 : decode cX8_ring 13 = .ok (.aload_n 0, 1) := by decide +kernel
theorem dX8_ring_14 : decode cX8_ring 14 = .ok (.getfield 19, 3) := by decide +kernel
theorem dX8_ring_17 : decode cX8_ring 17 = .ok (.iconst 3, 1) := by decide +kernel
theorem dX8_ring_18 : decode cX8_ring 18 = .ok (.dup2, 1) := by decide +kernel
theorem dX8_ring_19 : decode cX8_ring 19 = .ok (.iaload, 1) := by decide +kernel
theorem dX8_ring_20 : decode cX8_ring 20 = .ok (.iconst 1, 1) := by decide +kernel
theorem dX8_ring_21 : decode cX8_ring 21 = .ok (.iadd, 1) := by decide +kernel
theorem dX8_ring_22 : decode cX8_ring 22 = .ok (.iastore, 1) := by decide +kernel
theorem dX8_ring_23 : decode cX8_ring 23 = .ok (.iconst 0, 1) := by decide +kernel
theorem dX8_ring_24 : decode cX8_ring 24 = .ok (.istore_n 2, 1) := by decide +kernel
theorem dX8_ring_25 : decode cX8_ring 25 = .ok (.iload_n 2, 1) := by decide +kernel
theorem dX8_ring_26 : decode cX8_ring 26 = .ok (.aload_n 0, 1) := by decide +kernel
theorem dX8_ring_27 : decode cX8_ring 27 = .ok (.getfield 19, 3) := by decide +kernel
theorem dX8_ring_30 : decode cX8_ring 30 = .ok (.iconst 0, 1) := by decide +kernel
theorem dX8_ring_31 : decode cX8_ring 31 = .ok (.iaload, 1) := by decide +kernel
theorem dX8_ring_32 : decode cX8_ring 32 = .ok (.if_icmp .ge 24, 3) := by decide +kernel
theorem dX8_ring_35 : decode cX8_ring 35 = .ok (.aload_n 0, 1) := by decide +kernel
theorem dX8_ring_36 : decode cX8_ring 36 = .ok (.getfield 19, 3) := by decide +kernel
theorem dX8_ring_39 : decode cX8_ring 39 = .ok (.bipush 16, 2) := by decide +kernel
theorem dX8_ring_41 : decode cX8_ring 41 = .ok (.iload_n 2, 1) := by decide +kernel
theorem dX8_ring_42 : decode cX8_ring 42 = .ok (.iadd, 1) := by decide +kernel
theorem dX8_ring_43 : decode cX8_ring 43 = .ok (.aload_n 0, 1) := by decide +kernel
theorem dX8_ring_44 : decode cX8_ring 44 = .ok (.getfield 46, 3) := by decide +kernel
theorem dX8_ring_47 : decode cX8_ring 47 = .ok (.iload_n 2, 1) := by decide +kernel
theorem dX8_ring_48 : decode cX8_ring 48 = .ok (.iaload, 1) := by decide +kernel
theorem dX8_ring_49 : decode cX8_ring 49 = .ok (.iastore, 1) := by decide +kernel
theorem dX8_ring_50 : decode cX8_ring 50 = .ok (.iinc 2 1, 3) := by decide +kernel
theorem dX8_ring_53 : decode cX8_ring 53 = .ok (.goto (-28), 3) := by decide +kernel
theorem dX8_ring_56 : decode cX8_ring 56 = .ok (.iconst 0, 1) := by decide +kernel
theorem dX8_ring_57 : decode cX8_ring 57 = .ok (.istore_n 2, 1) := by decide +kernel
theorem dX8_ring_58 : decode cX8_ring 58 = .ok (.iload_n 2, 1) := by decide +kernel
theorem dX8_ring_59 : decode cX8_ring 59 = .ok (.aload_n 0, 1) := by decide +kernel
theorem dX8_ring_60 : decode cX8_ring 60 = .ok (.getfield 19, 3) := by decide +kernel
theorem dX8_ring_63 : decode cX8_ring 63 = .ok (.iconst 2, 1) := by decide +kernel
theorem dX8_ring_64 : decode cX8_ring 64 = .ok (.iaload, 1) := by decide +kernel
theorem dX8_ring_65 : decode cX8_ring 65 = .ok (.if_icmp .ge 28, 3) := by decide +kernel
theorem dX8_ring_68 : decode cX8_ring 68 = .ok (.aload_n 0, 1) := by decide +kernel
theorem dX8_ring_69 : decode cX8_ring 69 = .ok (.getfield 19, 3) := by decide +kernel
theorem dX8_ring_72 : decode cX8_ring 72 = .ok (.bipush 22, 2) := by decide +kernel
theorem dX8_ring_74 : decode cX8_ring 74 = .ok (.iconst 3, 1) := by decide +kernel
theorem dX8_ring_75 : decode cX8_ring 75 = .ok (.iload_n 2, 1) := by decide +kernel
theorem dX8_ring_76 : decode cX8_ring 76 = .ok (.imul, 1) := by decide +kernel
theorem dX8_ring_77 : decode cX8_ring 77 = .ok (.iadd, 1) := by decide +kernel
theorem dX8_ring_78 : decode cX8_ring 78 = .ok (.iconst 1, 1) := by decide +kernel
theorem dX8_ring_79 : decode cX8_ring 79 = .ok (.iadd, 1) := by decide +kernel
theorem dX8_ring_80 : decode cX8_ring 80 = .ok (.aload_n 0, 1) := by decide +kernel
theorem dX8_ring_81 : decode cX8_ring 81 = .ok (.getfield 31, 3) := by decide +kernel
theorem dX8_ring_84 : decode cX8_ring 84 = .ok (.iload_n 2, 1) := by decide +kernel
theorem dX8_ring_85 : decode cX8_ring 85 = .ok (.iaload, 1) := by decide +kernel
theorem dX8_ring_86 : decode cX8_ring 86 = .ok (.iastore, 1) := by decide +kernel
theorem dX8_ring_87 : decode cX8_ring 87 = .ok (.iinc 2 1, 3) := by decide +kernel
theorem dX8_ring_90 : decode cX8_ring 90 = .ok (.goto (-32), 3) := by decide +kernel
theorem dX8_ring_93 : decode cX8_ring 93 = .ok (.iload_n 1, 1) := by decide +kernel
theorem dX8_ring_94 : decode cX8_ring 94 = .ok (.ireturn, 1) := by decide +kernel
theorem dX8_bell_0 : decode cX8_bell 0 = .ok (.aload_n 0, 1) := by decide +kernel
theorem dX8_bell_1 : decode cX8_bell 1 = .ok (.iconst 0, 1) := by decide +kernel
theorem dX8_bell_2 : decode cX8_bell 2 = .ok (.putfield 59, 3) := by decide +kernel
theorem dX8_bell_5 : decode cX8_bell 5 = .ok (.aload_n 0, 1) := by decide +kernel
theorem dX8_bell_6 : decode cX8_bell 6 = .ok (.invokevirtual 222, 3) := by decide +kernel
theorem dX8_bell_9 : decode cX8_bell 9 = .ok (.ifCond .ne 6, 3) := by decide +kernel
theorem dX8_bell_12 : decode cX8_bell 12 = .ok (.ldc 226, 2) := by decide +kernel
theorem dX8_bell_14 : decode cX8_bell 14 = .ok (.ireturn, 1) := by decide +kernel
theorem dX8_bell_15 : decode cX8_bell 15 = .ok (.aload_n 0, 1) := by decide +kernel
theorem dX8_bell_16 : decode cX8_bell 16 = .ok (.getfield 19, 3) := by decide +kernel
theorem dX8_bell_19 : decode cX8_bell 19 = .ok (.iconst 3, 1) := by decide +kernel
theorem dX8_bell_20 : decode cX8_bell 20 = .ok (.iaload, 1) := by decide +kernel
theorem dX8_bell_21 : decode cX8_bell 21 = .ok (.sipush 9999, 3) := by decide +kernel
theorem dX8_bell_24 : decode cX8_bell 24 = .ok (.if_icmp .ne 8, 3) := by decide +kernel
theorem dX8_bell_27 : decode cX8_bell 27 = .ok (.ldc 89, 2) := by decide +kernel
theorem dX8_bell_29 : decode cX8_bell 29 = .ok (.goto 7, 3) := by decide +kernel
theorem dX8_bell_32 : decode cX8_bell 32 = .ok (.aload_n 0, 1) := by decide +kernel
theorem dX8_bell_33 : decode cX8_bell 33 = .ok (.invokevirtual 227, 3) := by decide +kernel
theorem dX8_bell_36 : decode cX8_bell 36 = .ok (.ireturn, 1) := by decide +kernel
theorem dX8_headsOfAll_0 : decode cX8_headsOfAll 0 = .ok (.iconst 0, 1) := by decide +kernel
theorem dX8_headsOfAll_1 : decode cX8_headsOfAll 1 = .ok (.istore_n 1, 1) := by decide +kernel
theorem dX8_headsOfAll_2 : decode cX8_headsOfAll 2 = .ok (.iconst 0, 1) := by decide +kernel
theorem dX8_headsOfAll_3 : decode cX8_headsOfAll 3 = .ok (.istore_n 2, 1) := by decide +kernel
theorem dX8_headsOfAll_4 : decode cX8_headsOfAll 4 = .ok (.iload_n 2, 1) := by decide +kernel
theorem dX8_headsOfAll_5 : decode cX8_headsOfAll 5 = .ok (.aload_n 0, 1) := by decide +kernel
theorem dX8_headsOfAll_6 : decode cX8_headsOfAll 6 = .ok (.getfield 19, 3) := by decide +kernel
theorem dX8_headsOfAll_9 : decode cX8_headsOfAll 9 = .ok (.iconst 2, 1) := by decide +kernel
theorem dX8_headsOfAll_10 : decode cX8_headsOfAll 10 = .ok (.iaload, 1) := by decide +kernel
theorem dX8_headsOfAll_11 : decode cX8_headsOfAll 11 = .ok (.if_icmp .ge 18, 3) := by decide +kernel
theorem dX8_headsOfAll_14 : decode cX8_headsOfAll 14 = .ok (.iload_n 1, 1) := by decide +kernel
theorem dX8_headsOfAll_15 : decode cX8_headsOfAll 15 = .ok (.aload_n 0, 1) := by decide +kernel
theorem dX8_headsOfAll_16 : decode cX8_headsOfAll 16 = .ok (.iload_n 2, 1) := by decide +kernel
theorem dX8_headsOfAll_17 : decode cX8_headsOfAll 17 = .ok (.iconst 2, 1) := by decide +kernel
theorem dX8_headsOfAll_18 : decode cX8_headsOfAll 18 = .ok (.invokevirtual 201, 3) := by decide +kernel
theorem dX8_headsOfAll_21 : decode cX8_headsOfAll 21 = .ok (.iadd, 1) := by decide +kernel
theorem dX8_headsOfAll_22 : decode cX8_headsOfAll 22 = .ok (.istore_n 1, 1) := by decide +kernel
theorem dX8_headsOfAll_23 : decode cX8_headsOfAll 23 = .ok (.iinc 2 1, 3) := by decide +kernel
theorem dX8_headsOfAll_26 : decode cX8_headsOfAll 26 = .ok (.goto (-22), 3) := by decide +kernel
theorem dX8_headsOfAll_29 : decode cX8_headsOfAll 29 = .ok (.iload_n 1, 1) := by decide +kernel
theorem dX8_headsOfAll_30 : decode cX8_headsOfAll 30 = .ok (.ireturn, 1) := by decide +kernel
theorem dX8_haveRoom_0 : decode cX8_haveRoom 0 = .ok (.aload_n 0, 1) := by decide +kernel
theorem dX8_haveRoom_1 : decode cX8_haveRoom 1 = .ok (.getfield 19, 3) := by decide +kernel
theorem dX8_haveRoom_4 : decode cX8_haveRoom 4 = .ok (.iconst 3, 1) := by decide +kernel
theorem dX8_haveRoom_5 : decode cX8_haveRoom 5 = .ok (.iaload, 1) := by decide +kernel
theorem dX8_haveRoom_6 : decode cX8_haveRoom 6 = .ok (.iload_n 2, 1) := by decide +kernel
theorem dX8_haveRoom_7 : decode cX8_haveRoom 7 = .ok (.iadd, 1) := by decide +kernel
theorem dX8_haveRoom_8 : decode cX8_haveRoom 8 = .ok (.sipush 9999, 3) := by decide +kernel
theorem dX8_haveRoom_11 : decode cX8_haveRoom 11 = .ok (.if_icmp .gt 7, 3) := by decide +kernel
theorem dX8_haveRoom_14 : decode cX8_haveRoom 14 = .ok (.iconst 1, 1) := by decide +kernel
theorem dX8_haveRoom_15 : decode cX8_haveRoom 15 = .ok (.goto 4, 3) := by decide +kernel
theorem dX8_haveRoom_18 : decode cX8_haveRoom 18 = .ok (.iconst 0, 1) := by decide +kernel
theorem dX8_haveRoom_19 : decode cX8_haveRoom 19 = .ok (.istore_n 3, 1) := by decide +kernel
theorem dX8_haveRoom_20 : decode cX8_haveRoom 20 = .ok (.iconst 0, 1) := by decide +kernel
theorem dX8_haveRoom_21 : decode cX8_haveRoom 21 = .ok (.istore 4, 2) := by decide +kernel
theorem dX8_haveRoom_23 : decode cX8_haveRoom 23 = .ok (.iload 4, 2) := by decide +kernel
theorem dX8_haveRoom_25 : decode cX8_haveRoom 25 = .ok (.aload_n 0, 1) := by decide +kernel
theorem dX8_haveRoom_26 : decode cX8_haveRoom 26 = .ok (.getfield 19, 3) := by decide +kernel
theorem dX8_haveRoom_29 : decode cX8_haveRoom 29 = .ok (.iconst 2, 1) := by decide +kernel
theorem dX8_haveRoom_30 : decode cX8_haveRoom 30 = .ok (.iaload, 1) := by decide +kernel
theorem dX8_haveRoom_31 : decode cX8_haveRoom 31 = .ok (.if_icmp .ge 69, 3) := by decide +kernel
theorem dX8_haveRoom_34 : decode cX8_haveRoom 34 = .ok (.aload_n 0, 1) := by decide +kernel
theorem dX8_haveRoom_35 : decode cX8_haveRoom 35 = .ok (.iload 4, 2) := by decide +kernel
theorem dX8_haveRoom_37 : decode cX8_haveRoom 37 = .ok (.iconst 2, 1) := by decide +kernel
theorem dX8_haveRoom_38 : decode cX8_haveRoom 38 = .ok (.invokevirtual 201, 3) := by decide +kernel
theorem dX8_haveRoom_41 : decode cX8_haveRoom 41 = .ok (.istore 5, 2) := by decide +kernel
theorem dX8_haveRoom_43 : decode cX8_haveRoom 43 = .ok (.iconst 0, 1) := by decide +kernel
theorem dX8_haveRoom_44 : decode cX8_haveRoom 44 = .ok (.istore 6, 2) := by decide +kernel
theorem dX8_haveRoom_46 : decode cX8_haveRoom 46 = .ok (.iload 6, 2) := by decide +kernel
theorem dX8_haveRoom_48 : decode cX8_haveRoom 48 = .ok (.iload_n 2, 1) := by decide +kernel
theorem dX8_haveRoom_49 : decode cX8_haveRoom 49 = .ok (.if_icmp .ge 28, 3) := by decide +kernel
theorem dX8_haveRoom_52 : decode cX8_haveRoom 52 = .ok (.iload 5, 2) := by decide +kernel
theorem dX8_haveRoom_54 : decode cX8_haveRoom 54 = .ok (.aload_n 0, 1) := by decide +kernel
theorem dX8_haveRoom_55 : decode cX8_haveRoom 55 = .ok (.getfield 16, 3) := by decide +kernel
theorem dX8_haveRoom_58 : decode cX8_haveRoom 58 = .ok (.iload_n 1, 1) := by decide +kernel
theorem dX8_haveRoom_59 : decode cX8_haveRoom 59 = .ok (.iload 6, 2) := by decide +kernel
theorem dX8_haveRoom_61 : decode cX8_haveRoom 61 = .ok (.iadd, 1) := by decide +kernel
theorem dX8_haveRoom_62 : decode cX8_haveRoom 62 = .ok (.iaload, 1) := by decide +kernel
theorem dX8_haveRoom_63 : decode cX8_haveRoom 63 = .ok (.iload 4, 2) := by decide +kernel
theorem dX8_haveRoom_65 : decode cX8_haveRoom 65 = .ok (.ishr, 1) := by decide +kernel
theorem dX8_haveRoom_66 : decode cX8_haveRoom 66 = .ok (.iconst 1, 1) := by decide +kernel
theorem dX8_haveRoom_67 : decode cX8_haveRoom 67 = .ok (.iand, 1) := by decide +kernel
theorem dX8_haveRoom_68 : decode cX8_haveRoom 68 = .ok (.iadd, 1) := by decide +kernel
theorem dX8_haveRoom_69 : decode cX8_haveRoom 69 = .ok (.istore 5, 2) := by decide +kernel
theorem dX8_haveRoom_71 : decode cX8_haveRoom 71 = .ok (.iinc 6 1, 3) := by decide +kernel
theorem dX8_haveRoom_74 : decode cX8_haveRoom 74 = .ok (.goto (-28), 3) := by decide +kernel
theorem dX8_haveRoom_77 : decode cX8_haveRoom 77 = .ok (.iload_n 3, 1) := by decide +kernel
theorem dX8_haveRoom_78 : decode cX8_haveRoom 78 = .ok (.ifCond .eq 14, 3) := by decide +kernel
theorem dX8_haveRoom_81 : decode cX8_haveRoom 81 = .ok (.iload 5, 2) := by decide +kernel
theorem dX8_haveRoom_83 : decode cX8_haveRoom 83 = .ok (.bipush 99, 2) := by decide +kernel
theorem dX8_haveRoom_85 : decode cX8_haveRoom 85 = .ok (.if_icmp .gt 7, 3) := by decide +kernel
theorem dX8_haveRoom_88 : decode cX8_haveRoom 88 = .ok (.iconst 1, 1) := by decide +kernel
theorem dX8_haveRoom_89 : decode cX8_haveRoom 89 = .ok (.goto 4, 3) := by decide +kernel
theorem dX8_haveRoom_92 : decode cX8_haveRoom 92 = .ok (.iconst 0, 1) := by decide +kernel
theorem dX8_haveRoom_93 : decode cX8_haveRoom 93 = .ok (.istore_n 3, 1) := by decide +kernel
theorem dX8_haveRoom_94 : decode cX8_haveRoom 94 = .ok (.iinc 4 1, 3) := by decide +kernel
theorem dX8_haveRoom_97 : decode cX8_haveRoom 97 = .ok (.goto (-74), 3) := by decide +kernel
theorem dX8_haveRoom_100 : decode cX8_haveRoom 100 = .ok (.iload_n 3, 1) := by decide +kernel
theorem dX8_haveRoom_101 : decode cX8_haveRoom 101 = .ok (.ireturn, 1) := by decide +kernel
theorem dX8_bells_0 : decode cX8_bells 0 = .ok (.aload_n 0, 1) := by decide +kernel
theorem dX8_bells_1 : decode cX8_bells 1 = .ok (.iconst 0, 1) := by decide +kernel
theorem dX8_bells_2 : decode cX8_bells 2 = .ok (.putfield 59, 3) := by decide +kernel
theorem dX8_bells_5 : decode cX8_bells 5 = .ok (.aload_n 0, 1) := by decide +kernel
theorem dX8_bells_6 : decode cX8_bells 6 = .ok (.invokevirtual 222, 3) := by decide +kernel
theorem dX8_bells_9 : decode cX8_bells 9 = .ok (.ifCond .ne 6, 3) := by decide +kernel
theorem dX8_bells_12 : decode cX8_bells 12 = .ok (.ldc 226, 2) := by decide +kernel
theorem dX8_bells_14 : decode cX8_bells 14 = .ok (.ireturn, 1) := by decide +kernel
theorem dX8_bells_15 : decode cX8_bells 15 = .ok (.iload_n 1, 1) := by decide +kernel
theorem dX8_bells_16 : decode cX8_bells 16 = .ok (.invokestatic 73, 3) := by decide +kernel
theorem dX8_bells_19 : decode cX8_bells 19 = .ok (.ifCond .eq 15, 3) := by decide +kernel
theorem dX8_bells_22 : decode cX8_bells 22 = .ok (.iload_n 3, 1) := by decide +kernel
theorem dX8_bells_23 : decode cX8_bells 23 = .ok (.i2l, 1) := by decide +kernel
theorem dX8_bells_24 : decode cX8_bells 24 = .ok (.lconst 1, 1) := by decide +kernel
theorem dX8_bells_25 : decode cX8_bells 25 = .ok (.ldc2_w 230, 3) := by decide +kernel
theorem dX8_bells_28 : decode cX8_bells 28 = .ok (.invokestatic 69, 3) := by decide +kernel
theorem dX8_bells_31 : decode cX8_bells 31 = .ok (.ifCond .ne 6, 3) := by decide +kernel
theorem dX8_bells_34 : decode cX8_bells 34 = .ok (.ldc 79, 2) := by decide +kernel
theorem dX8_bells_36 : decode cX8_bells 36 = .ok (.ireturn, 1) := by decide +kernel
theorem dX8_bells_37 : decode cX8_bells 37 = .ok (.aload_n 0, 1) := by decide +kernel
theorem dX8_bells_38 : decode cX8_bells 38 = .ok (.getfield 7, 3) := by decide +kernel
theorem dX8_bells_41 : decode cX8_bells 41 = .ok (.iload_n 1, 1) := by decide +kernel
theorem dX8_bells_42 : decode cX8_bells 42 = .ok (.iaload, 1) := by decide +kernel
theorem dX8_bells_43 : decode cX8_bells 43 = .ok (.ifCond .ge 9, 3) := by decide +kernel
theorem dX8_bells_46 : decode cX8_bells 46 = .ok (.aload_n 0, 1) := by decide +kernel
theorem dX8_bells_47 : decode cX8_bells 47 = .ok (.iconst 1, 1) := by decide +kernel
theorem dX8_bells_48 : decode cX8_bells 48 = .ok (.invokevirtual 80, 3) := by decide +kernel
theorem dX8_bells_51 : decode cX8_bells 51 = .ok (.ireturn, 1) := by decide +kernel
theorem dX8_bells_52 : decode cX8_bells 52 = .ok (.iload_n 2, 1) := by decide +kernel
theorem dX8_bells_53 : decode cX8_bells 53 = .ok (.ifCond .lt 19, 3) := by decide +kernel
theorem dX8_bells_56 : decode cX8_bells 56 = .ok (.iload_n 2, 1) := by decide +kernel
theorem dX8_bells_57 : decode cX8_bells 57 = .ok (.i2l, 1) := by decide +kernel
theorem dX8_bells_58 : decode cX8_bells 58 = .ok (.iload_n 3, 1) := by decide +kernel
theorem dX8_bells_59 : decode cX8_bells 59 = .ok (.i2l, 1) := by decide +kernel
theorem dX8_bells_60 : decode cX8_bells 60 = .ok (.ladd, 1) := by decide +kernel
theorem dX8_bells_61 : decode cX8_bells 61 = .ok (.aload_n 0, 1) := by decide +kernel
theorem dX8_bells_62 : decode cX8_bells 62 = .ok (.getfield 13, 3) := by decide +kernel
theorem dX8_bells_65 : decode cX8_bells 65 = .ok (.iload_n 1, 1) := by decide +kernel
theorem dX8_bells_66 : decode cX8_bells 66 = .ok (.iaload, 1) := by decide +kernel
theorem dX8_bells_67 : decode cX8_bells 67 = .ok (.i2l, 1) := by decide +kernel
theorem dX8_bells_68 : decode cX8_bells 68 = .ok (.lcmp, 1) := by decide +kernel
theorem dX8_bells_69 : decode cX8_bells 69 = .ok (.ifCond .le 9, 3) := by decide +kernel
theorem dX8_bells_72 : decode cX8_bells 72 = .ok (.aload_n 0, 1) := by decide +kernel
theorem dX8_bells_73 : decode cX8_bells 73 = .ok (.iconst 2, 1) := by decide +kernel
theorem dX8_bells_74 : decode cX8_bells 74 = .ok (.invokevirtual 80, 3) := by decide +kernel
theorem dX8_bells_77 : decode cX8_bells 77 = .ok (.ireturn, 1) := by decide +kernel
theorem dX8_bells_78 : decode cX8_bells 78 = .ok (.bipush 40, 2) := by decide +kernel
theorem dX8_bells_80 : decode cX8_bells 80 = .ok (.iload_n 1, 1) := by decide +kernel
theorem dX8_bells_81 : decode cX8_bells 81 = .ok (.imul, 1) := by decide +kernel
theorem dX8_bells_82 : decode cX8_bells 82 = .ok (.iload_n 2, 1) := by decide +kernel
theorem dX8_bells_83 : decode cX8_bells 83 = .ok (.iadd, 1) := by decide +kernel
theorem dX8_bells_84 : decode cX8_bells 84 = .ok (.istore 4, 2) := by decide +kernel
theorem dX8_bells_86 : decode cX8_bells 86 = .ok (.iconst 0, 1) := by decide +kernel
theorem dX8_bells_87 : decode cX8_bells 87 = .ok (.istore 5, 2) := by decide +kernel
theorem dX8_bells_89 : decode cX8_bells 89 = .ok (.iload 5, 2) := by decide +kernel
theorem dX8_bells_91 : decode cX8_bells 91 = .ok (.iload_n 3, 1) := by decide +kernel
theorem dX8_bells_92 : decode cX8_bells 92 = .ok (.if_icmp .ge 41, 3) := by decide +kernel
theorem dX8_bells_95 : decode cX8_bells 95 = .ok (.aload_n 0, 1) := by decide +kernel
theorem dX8_bells_96 : decode cX8_bells 96 = .ok (.getfield 16, 3) := by decide +kernel
theorem dX8_bells_99 : decode cX8_bells 99 = .ok (.iload 4, 2) := by decide +kernel
theorem dX8_bells_101 : decode cX8_bells 101 = .ok (.iload 5, 2) := by decide +kernel
theorem dX8_bells_103 : decode cX8_bells 103 = .ok (.iadd, 1) := by decide +kernel
theorem dX8_bells_104 : decode cX8_bells 104 = .ok (.iaload, 1) := by decide +kernel
theorem dX8_bells_105 : decode cX8_bells 105 = .ok (.i2l, 1) := by decide +kernel
theorem dX8_bells_106 : decode cX8_bells 106 = .ok (.lconst 0, 1) := by decide +kernel
theorem dX8_bells_107 : decode cX8_bells 107 = .ok (.iconst 1, 1) := by decide +kernel
theorem dX8_bells_108 : decode cX8_bells 108 = .ok (.aload_n 0, 1) := by decide +kernel
theorem dX8_bells_109 : decode cX8_bells 109 = .ok (.getfield 19, 3) := by decide +kernel
theorem dX8_bells_112 : decode cX8_bells 112 = .ok (.iconst 2, 1) := by decide +kernel
theorem dX8_bells_113 : decode cX8_bells 113 = .ok (.iaload, 1) := by decide +kernel
theorem dX8_bells_114 : decode cX8_bells 114 = .ok (.ishl, 1) := by decide +kernel
theorem dX8_bells_115 : decode cX8_bells 115 = .ok (.iconst 1, 1) := by decide +kernel
theorem dX8_bells_116 : decode cX8_bells 116 = .ok (.isub, 1) := by decide +kernel
theorem dX8_bells_117 : decode cX8_bells 117 = .ok (.i2l, 1) := by decide +kernel
theorem dX8_bells_118 : decode cX8_bells 118 = .ok (.invokestatic 69, 3) := by decide +kernel
theorem dX8_bells_121 : decode cX8_bells 121 = .ok (.ifCond .ne 6, 3) := by decide +kernel
theorem dX8_bells_124 : decode cX8_bells 124 = .ok (.ldc 79, 2) := by decide +kernel
theorem dX8_bells_126 : decode cX8_bells 126 = .ok (.ireturn, 1) := by decide +kernel
theorem dX8_bells_127 : decode cX8_bells 127 = .ok (.iinc 5 1, 3) := by decide +kernel
theorem dX8_bells_130 : decode cX8_bells 130 = .ok (.goto (-41), 3) := by decide +kernel
theorem dX8_bells_133 : decode cX8_bells 133 = .ok (.aload_n 0, 1) := by decide +kernel
theorem dX8_bells_134 : decode cX8_bells 134 = .ok (.iload 4, 2) := by decide +kernel
theorem dX8_bells_136 : decode cX8_bells 136 = .ok (.iload_n 3, 1) := by decide +kernel
theorem dX8_bells_137 : decode cX8_bells 137 = .ok (.invokevirtual 232, 3) := by decide +kernel
theorem dX8_bells_140 : decode cX8_bells 140 = .ok (.ifCond .ne 6, 3) := by decide +kernel
theorem dX8_bells_143 : decode cX8_bells 143 = .ok (.ldc 89, 2) := by decide +kernel
theorem dX8_bells_145 : decode cX8_bells 145 = .ok (.ireturn, 1) := by decide +kernel
theorem dX8_bells_146 : decode cX8_bells 146 = .ok (.aload_n 0, 1) := by decide +kernel
theorem dX8_bells_147 : decode cX8_bells 147 = .ok (.iconst 0, 1) := by decide +kernel
theorem dX8_bells_148 : decode cX8_bells 148 = .ok (.putfield 63, 3) := by decide +kernel
theorem dX8_bells_151 : decode cX8_bells 151 = .ok (.iconst 0, 1) := by decide +kernel
theorem dX8_bells_152 : decode cX8_bells 152 = .ok (.istore 5, 2) := by decide +kernel
theorem dX8_bells_154 : decode cX8_bells 154 = .ok (.iload 5, 2) := by decide +kernel
theorem dX8_bells_156 : decode cX8_bells 156 = .ok (.iload_n 3, 1) := by decide +kernel
theorem dX8_bells_157 : decode cX8_bells 157 = .ok (.if_icmp .ge 67, 3) := by decide +kernel
theorem dX8_bells_160 : decode cX8_bells 160 = .ok (.aload_n 0, 1) := by decide +kernel
theorem dX8_bells_161 : decode cX8_bells 161 = .ok (.invokevirtual 227, 3) := by decide +kernel
theorem dX8_bells_164 : decode cX8_bells 164 = .ok (.istore 6, 2) := by decide +kernel
theorem dX8_bells_166 : decode cX8_bells 166 = .ok (.iconst 0, 1) := by decide +kernel
theorem dX8_bells_167 : decode cX8_bells 167 = .ok (.istore 7, 2) := by decide +kernel
theorem dX8_bells_169 : decode cX8_bells 169 = .ok (.iload 7, 2) := by decide +kernel
theorem dX8_bells_171 : decode cX8_bells 171 = .ok (.aload_n 0, 1) := by decide +kernel
theorem dX8_bells_172 : decode cX8_bells 172 = .ok (.getfield 19, 3) := by decide +kernel
theorem dX8_bells_175 : decode cX8_bells 175 = .ok (.iconst 2, 1) := by decide +kernel
theorem dX8_bells_176 : decode cX8_bells 176 = .ok (.iaload, 1) := by decide +kernel
theorem dX8_bells_177 : decode cX8_bells 177 = .ok (.if_icmp .ge 41, 3) := by decide +kernel
theorem dX8_bells_180 : decode cX8_bells 180 = .ok (.aload_n 0, 1) := by decide +kernel
theorem dX8_bells_181 : decode cX8_bells 181 = .ok (.getfield 19, 3) := by decide +kernel
theorem dX8_bells_184 : decode cX8_bells 184 = .ok (.bipush 22, 2) := by decide +kernel
theorem dX8_bells_186 : decode cX8_bells 186 = .ok (.iconst 3, 1) := by decide +kernel
theorem dX8_bells_187 : decode cX8_bells 187 = .ok (.iload 7, 2) := by decide +kernel
theorem dX8_bells_189 : decode cX8_bells 189 = .ok (.imul, 1) := by decide +kernel
theorem dX8_bells_190 : decode cX8_bells 190 = .ok (.iadd, 1) := by decide +kernel
theorem dX8_bells_191 : decode cX8_bells 191 = .ok (.iconst 2, 1) := by decide +kernel
theorem dX8_bells_192 : decode cX8_bells 192 = .ok (.iadd, 1) := by decide +kernel
theorem dX8_bells_193 : decode cX8_bells 193 = .ok (.dup2, 1) := by decide +kernel
theorem dX8_bells_194 : decode cX8_bells 194 = .ok (.iaload, 1) := by decide +kernel
theorem dX8_bells_195 : decode cX8_bells 195 = .ok (.aload_n 0, 1) := by decide +kernel
theorem dX8_bells_196 : decode cX8_bells 196 = .ok (.getfield 16, 3) := by decide +kernel
theorem dX8_bells_199 : decode cX8_bells 199 = .ok (.iload 4, 2) := by decide +kernel
theorem dX8_bells_201 : decode cX8_bells 201 = .ok (.iload 5, 2) := by decide +kernel
theorem dX8_bells_203 : decode cX8_bells 203 = .ok (.iadd, 1) := by decide +kernel
theorem dX8_bells_204 : decode cX8_bells 204 = .ok (.iaload, 1) := by decide +kernel
theorem dX8_bells_205 : decode cX8_bells 205 = .ok (.iload 7, 2) := by decide +kernel
theorem dX8_bells_207 : decode cX8_bells 207 = .ok (.ishr, 1) := by decide +kernel
theorem dX8_bells_208 : decode cX8_bells 208 = .ok (.iconst 1, 1) := by decide +kernel
theorem dX8_bells_209 : decode cX8_bells 209 = .ok (.iand, 1) := by decide +kernel
theorem dX8_bells_210 : decode cX8_bells 210 = .ok (.iadd, 1) := by decide +kernel
theorem dX8_bells_211 : decode cX8_bells 211 = .ok (.iastore, 1) := by decide +kernel
theorem dX8_bells_212 : decode cX8_bells 212 = .ok (.iinc 7 1, 3) := by decide +kernel
theorem dX8_bells_215 : decode cX8_bells 215 = .ok (.goto (-46), 3) := by decide +kernel
theorem dX8_bells_218 : decode cX8_bells 218 = .ok (.iinc 5 1, 3) := by decide +kernel
theorem dX8_bells_221 : decode cX8_bells 221 = .ok (.goto (-67), 3) := by decide +kernel
theorem dX8_bells_224 : decode cX8_bells 224 = .ok (.aload_n 0, 1) := by decide +kernel
theorem dX8_bells_225 : decode cX8_bells 225 = .ok (.invokevirtual 236, 3) := by decide +kernel
theorem dX8_bells_228 : decode cX8_bells 228 = .ok (.ireturn, 1) := by decide +kernel
theorem dX8_door_0 : decode cX8_door 0 = .ok (.aload_n 0, 1) := by decide +kernel
theorem dX8_door_1 : decode cX8_door 1 = .ok (.iconst 0, 1) := by decide +kernel
theorem dX8_door_2 : decode cX8_door 2 = .ok (.putfield 59, 3) := by decide +kernel
theorem dX8_door_5 : decode cX8_door 5 = .ok (.aload_n 0, 1) := by decide +kernel
theorem dX8_door_6 : decode cX8_door 6 = .ok (.iload_n 1, 1) := by decide +kernel
theorem dX8_door_7 : decode cX8_door 7 = .ok (.invokevirtual 239, 3) := by decide +kernel
theorem dX8_door_10 : decode cX8_door 10 = .ok (.ifCond .eq 26, 3) := by decide +kernel
theorem dX8_door_13 : decode cX8_door 13 = .ok (.aload_n 0, 1) := by decide +kernel
theorem dX8_door_14 : decode cX8_door 14 = .ok (.iload_n 2, 1) := by decide +kernel
theorem dX8_door_15 : decode cX8_door 15 = .ok (.invokevirtual 239, 3) := by decide +kernel
theorem dX8_door_18 : decode cX8_door 18 = .ok (.ifCond .eq 18, 3) := by decide +kernel
theorem dX8_door_21 : decode cX8_door 21 = .ok (.iload_n 1, 1) := by decide +kernel
theorem dX8_door_22 : decode cX8_door 22 = .ok (.iload_n 2, 1) := by decide +kernel
theorem dX8_door_23 : decode cX8_door 23 = .ok (.if_icmp .eq 13, 3) := by decide +kernel
theorem dX8_door_26 : decode cX8_door 26 = .ok (.iload_n 3, 1) := by decide +kernel
theorem dX8_door_27 : decode cX8_door 27 = .ok (.i2l, 1) := by decide +kernel
theorem dX8_door_28 : decode cX8_door 28 = .ok (.lconst 0, 1) := by decide +kernel
theorem dX8_door_29 : decode cX8_door 29 = .ok (.lconst 1, 1) := by decide +kernel
theorem dX8_door_30 : decode cX8_door 30 = .ok (.invokestatic 69, 3) := by decide +kernel
theorem dX8_door_33 : decode cX8_door 33 = .ok (.ifCond .ne 6, 3) := by decide +kernel
theorem dX8_door_36 : decode cX8_door 36 = .ok (.ldc 79, 2) := by decide +kernel
theorem dX8_door_38 : decode cX8_door 38 = .ok (.ireturn, 1) := by decide +kernel
theorem dX8_door_39 : decode cX8_door 39 = .ok (.aload_n 0, 1) := by decide +kernel
theorem dX8_door_40 : decode cX8_door 40 = .ok (.invokevirtual 216, 3) := by decide +kernel
theorem dX8_door_43 : decode cX8_door 43 = .ok (.aload_n 0, 1) := by decide +kernel
theorem dX8_door_44 : decode cX8_door 44 = .ok (.getfield 19, 3) := by decide +kernel
theorem dX8_door_47 : decode cX8_door 47 = .ok (.bipush 10, 2) := by decide +kernel
theorem dX8_door_49 : decode cX8_door 49 = .ok (.iload_n 1, 1) := by decide +kernel
theorem dX8_door_50 : decode cX8_door 50 = .ok (.iadd, 1) := by decide +kernel
theorem dX8_door_51 : decode cX8_door 51 = .ok (.iaload, 1) := by decide +kernel
theorem dX8_door_52 : decode cX8_door 52 = .ok (.iload_n 2, 1) := by decide +kernel
theorem dX8_door_53 : decode cX8_door 53 = .ok (.ishr, 1) := by decide +kernel
theorem dX8_door_54 : decode cX8_door 54 = .ok (.iconst 1, 1) := by decide +kernel
theorem dX8_door_55 : decode cX8_door 55 = .ok (.iand, 1) := by decide +kernel
theorem dX8_door_56 : decode cX8_door 56 = .ok (.istore 4, 2) := by decide +kernel
theorem dX8_door_58 : decode cX8_door 58 = .ok (.aload_n 0, 1) := by decide +kernel
theorem dX8_door_59 : decode cX8_door 59 = .ok (.getfield 19, 3) := by decide +kernel
theorem dX8_door_62 : decode cX8_door 62 = .ok (.bipush 10, 2) := by decide +kernel
theorem dX8_door_64 : decode cX8_door 64 = .ok (.iload_n 1, 1) := by decide +kernel
theorem dX8_door_65 : decode cX8_door 65 = .ok (.iadd, 1) := by decide +kernel
theorem dX8_door_66 : decode cX8_door 66 = .ok (.aload_n 0, 1) := by decide +kernel
theorem dX8_door_67 : decode cX8_door 67 = .ok (.getfield 19, 3) := by decide +kernel
theorem dX8_door_70 : decode cX8_door 70 = .ok (.bipush 10, 2) := by decide +kernel
theorem dX8_door_72 : decode cX8_door 72 = .ok (.iload_n 1, 1) := by decide +kernel
theorem dX8_door_73 : decode cX8_door 73 = .ok (.iadd, 1) := by decide +kernel
theorem dX8_door_74 : decode cX8_door 74 = .ok (.iaload, 1) := by decide +kernel
theorem dX8_door_75 : decode cX8_door 75 = .ok (.iconst 1, 1) := by decide +kernel
theorem dX8_door_76 : decode cX8_door 76 = .ok (.iload_n 2, 1) := by decide +kernel
theorem dX8_door_77 : decode cX8_door 77 = .ok (.ishl, 1) := by decide +kernel
theorem dX8_door_78 : decode cX8_door 78 = .ok (.iconst (-1), 1) := by decide +kernel
theorem dX8_door_79 : decode cX8_door 79 = .ok (.ixor, 1) := by decide +kernel
theorem dX8_door_80 : decode cX8_door 80 = .ok (.iand, 1) := by decide +kernel
theorem dX8_door_81 : decode cX8_door 81 = .ok (.iload_n 3, 1) := by decide +kernel
theorem dX8_door_82 : decode cX8_door 82 = .ok (.iload_n 2, 1) := by decide +kernel
theorem dX8_door_83 : decode cX8_door 83 = .ok (.ishl, 1) := by decide +kernel
theorem dX8_door_84 : decode cX8_door 84 = .ok (.ior, 1) := by decide +kernel
theorem dX8_door_85 : decode cX8_door 85 = .ok (.iastore, 1) := by decide +kernel
theorem dX8_door_86 : decode cX8_door 86 = .ok (.aload_n 0, 1) := by decide +kernel
theorem dX8_door_87 : decode cX8_door 87 = .ok (.getfield 19, 3) := by decide +kernel
theorem dX8_door_90 : decode cX8_door 90 = .ok (.bipush 10, 2) := by decide +kernel
theorem dX8_door_92 : decode cX8_door 92 = .ok (.iload_n 2, 1) := by decide +kernel
theorem dX8_door_93 : decode cX8_door 93 = .ok (.iadd, 1) := by decide +kernel
theorem dX8_door_94 : decode cX8_door 94 = .ok (.aload_n 0, 1) := by decide +kernel
theorem dX8_door_95 : decode cX8_door 95 = .ok (.getfield 19, 3) := by decide +kernel
theorem dX8_door_98 : decode cX8_door 98 = .ok (.bipush 10, 2) := by decide +kernel
theorem dX8_door_100 : decode cX8_door 100 = .ok (.iload_n 2, 1) := by decide +kernel
theorem dX8_door_101 : decode cX8_door 101 = .ok (.iadd, 1) := by decide +kernel
theorem dX8_door_102 : decode cX8_door 102 = .ok (.iaload, 1) := by decide +kernel
theorem dX8_door_103 : decode cX8_door 103 = .ok (.iconst 1, 1) := by decide +kernel
theorem dX8_door_104 : decode cX8_door 104 = .ok (.iload_n 1, 1) := by decide +kernel
theorem dX8_door_105 : decode cX8_door 105 = .ok (.ishl, 1) := by decide +kernel
theorem dX8_door_106 : decode cX8_door 106 = .ok (.iconst (-1), 1) := by decide +kernel
theorem dX8_door_107 : decode cX8_door 107 = .ok (.ixor, 1) := by decide +kernel
theorem dX8_door_108 : decode cX8_door 108 = .ok (.iand, 1) := by decide +kernel
theorem dX8_door_109 : decode cX8_door 109 = .ok (.iload_n 3, 1) := by decide +kernel
theorem dX8_door_110 : decode cX8_door 110 = .ok (.iload_n 1, 1) := by decide +kernel
theorem dX8_door_111 : decode cX8_door 111 = .ok (.ishl, 1) := by decide +kernel
theorem dX8_door_112 : decode cX8_door 112 = .ok (.ior, 1) := by decide +kernel
theorem dX8_door_113 : decode cX8_door 113 = .ok (.iastore, 1) := by decide +kernel
theorem dX8_door_114 : decode cX8_door 114 = .ok (.iload 4, 2) := by decide +kernel
theorem dX8_door_116 : decode cX8_door 116 = .ok (.ireturn, 1) := by decide +kernel
theorem dX8_heads_0 : decode cX8_heads 0 = .ok (.aload_n 0, 1) := by decide +kernel
theorem dX8_heads_1 : decode cX8_heads 1 = .ok (.iconst 0, 1) := by decide +kernel
theorem dX8_heads_2 : decode cX8_heads 2 = .ok (.putfield 59, 3) := by decide +kernel
theorem dX8_heads_5 : decode cX8_heads 5 = .ok (.aload_n 0, 1) := by decide +kernel
theorem dX8_heads_6 : decode cX8_heads 6 = .ok (.iload_n 1, 1) := by decide +kernel
theorem dX8_heads_7 : decode cX8_heads 7 = .ok (.invokevirtual 242, 3) := by decide +kernel
theorem dX8_heads_10 : decode cX8_heads 10 = .ok (.ifCond .eq 15, 3) := by decide +kernel
theorem dX8_heads_13 : decode cX8_heads 13 = .ok (.iload_n 2, 1) := by decide +kernel
theorem dX8_heads_14 : decode cX8_heads 14 = .ok (.i2l, 1) := by decide +kernel
theorem dX8_heads_15 : decode cX8_heads 15 = .ok (.lconst 1, 1) := by decide +kernel
theorem dX8_heads_16 : decode cX8_heads 16 = .ok (.ldc2_w 245, 3) := by decide +kernel
theorem dX8_heads_19 : decode cX8_heads 19 = .ok (.invokestatic 69, 3) := by decide +kernel
theorem dX8_heads_22 : decode cX8_heads 22 = .ok (.ifCond .ne 6, 3) := by decide +kernel
theorem dX8_heads_25 : decode cX8_heads 25 = .ok (.ldc 79, 2) := by decide +kernel
theorem dX8_heads_27 : decode cX8_heads 27 = .ok (.ireturn, 1) := by decide +kernel
theorem dX8_heads_28 : decode cX8_heads 28 = .ok (.aload_n 0, 1) := by decide +kernel
theorem dX8_heads_29 : decode cX8_heads 29 = .ok (.invokevirtual 216, 3) := by decide +kernel
theorem dX8_heads_32 : decode cX8_heads 32 = .ok (.aload_n 0, 1) := by decide +kernel
theorem dX8_heads_33 : decode cX8_heads 33 = .ok (.iload_n 1, 1) := by decide +kernel
theorem dX8_heads_34 : decode cX8_heads 34 = .ok (.iconst 2, 1) := by decide +kernel
theorem dX8_heads_35 : decode cX8_heads 35 = .ok (.invokevirtual 201, 3) := by decide +kernel
theorem dX8_heads_38 : decode cX8_heads 38 = .ok (.istore_n 3, 1) := by decide +kernel
theorem dX8_heads_39 : decode cX8_heads 39 = .ok (.aload_n 0, 1) := by decide +kernel
theorem dX8_heads_40 : decode cX8_heads 40 = .ok (.getfield 19, 3) := by decide +kernel
theorem dX8_heads_43 : decode cX8_heads 43 = .ok (.bipush 22, 2) := by decide +kernel
theorem dX8_heads_45 : decode cX8_heads 45 = .ok (.iconst 3, 1) := by decide +kernel
theorem dX8_heads_46 : decode cX8_heads 46 = .ok (.iload_n 1, 1) := by decide +kernel
theorem dX8_heads_47 : decode cX8_heads 47 = .ok (.imul, 1) := by decide +kernel
theorem dX8_heads_48 : decode cX8_heads 48 = .ok (.iadd, 1) := by decide +kernel
theorem dX8_heads_49 : decode cX8_heads 49 = .ok (.iconst 2, 1) := by decide +kernel
theorem dX8_heads_50 : decode cX8_heads 50 = .ok (.iadd, 1) := by decide +kernel
theorem dX8_heads_51 : decode cX8_heads 51 = .ok (.iload_n 2, 1) := by decide +kernel
theorem dX8_heads_52 : decode cX8_heads 52 = .ok (.iastore, 1) := by decide +kernel
theorem dX8_heads_53 : decode cX8_heads 53 = .ok (.iload_n 3, 1) := by decide +kernel
theorem dX8_heads_54 : decode cX8_heads 54 = .ok (.ireturn, 1) := by decide +kernel
theorem dX8_undo_0 : decode cX8_undo 0 = .ok (.aload_n 0, 1) := by decide +kernel
theorem dX8_undo_1 : decode cX8_undo 1 = .ok (.iconst 0, 1) := by decide +kernel
theorem dX8_undo_2 : decode cX8_undo 2 = .ok (.putfield 59, 3) := by decide +kernel
theorem dX8_undo_5 : decode cX8_undo 5 = .ok (.aload_n 0, 1) := by decide +kernel
theorem dX8_undo_6 : decode cX8_undo 6 = .ok (.getfield 189, 3) := by decide +kernel
theorem dX8_undo_9 : decode cX8_undo 9 = .ok (.ifCond .ne 6, 3) := by decide +kernel
theorem dX8_undo_12 : decode cX8_undo 12 = .ok (.ldc 226, 2) := by decide +kernel
theorem dX8_undo_14 : decode cX8_undo 14 = .ok (.ireturn, 1) := by decide +kernel
theorem dX8_undo_15 : decode cX8_undo 15 = .ok (.aload_n 0, 1) := by decide +kernel
theorem dX8_undo_16 : decode cX8_undo 16 = .ok (.dup, 1) := by decide +kernel
theorem dX8_undo_17 : decode cX8_undo 17 = .ok (.getfield 189, 3) := by decide +kernel
theorem dX8_undo_20 : decode cX8_undo 20 = .ok (.iconst 1, 1) := by decide +kernel
theorem dX8_undo_21 : decode cX8_undo 21 = .ok (.isub, 1) := by decide +kernel
theorem dX8_undo_22 : decode cX8_undo 22 = .ok (.putfield 189, 3) := by decide +kernel
theorem dX8_undo_25 : decode cX8_undo 25 = .ok (.iconst 0, 1) := by decide +kernel
theorem dX8_undo_26 : decode cX8_undo 26 = .ok (.istore_n 1, 1) := by decide +kernel
theorem dX8_undo_27 : decode cX8_undo 27 = .ok (.iload_n 1, 1) := by decide +kernel
theorem dX8_undo_28 : decode cX8_undo 28 = .ok (.bipush 37, 2) := by decide +kernel
theorem dX8_undo_30 : decode cX8_undo 30 = .ok (.if_icmp .ge 29, 3) := by decide +kernel
theorem dX8_undo_33 : decode cX8_undo 33 = .ok (.aload_n 0, 1) := by decide +kernel
theorem dX8_undo_34 : decode cX8_undo 34 = .ok (.getfield 19, 3) := by decide +kernel
theorem dX8_undo_37 : decode cX8_undo 37 = .ok (.iload_n 1, 1) := by decide +kernel
theorem dX8_undo_38 : decode cX8_undo 38 = .ok (.aload_n 0, 1) := by decide +kernel
theorem dX8_undo_39 : decode cX8_undo 39 = .ok (.getfield 25, 3) := by decide +kernel
theorem dX8_undo_42 : decode cX8_undo 42 = .ok (.bipush 37, 2) := by decide +kernel
theorem dX8_undo_44 : decode cX8_undo 44 = .ok (.aload_n 0, 1) := by decide +kernel
theorem dX8_undo_45 : decode cX8_undo 45 = .ok (.getfield 189, 3) := by decide +kernel
theorem dX8_undo_48 : decode cX8_undo 48 = .ok (.imul, 1) := by decide +kernel
theorem dX8_undo_49 : decode cX8_undo 49 = .ok (.iload_n 1, 1) := by decide +kernel
theorem dX8_undo_50 : decode cX8_undo 50 = .ok (.iadd, 1) := by decide +kernel
theorem dX8_undo_51 : decode cX8_undo 51 = .ok (.iaload, 1) := by decide +kernel
theorem dX8_undo_52 : decode cX8_undo 52 = .ok (.iastore, 1) := by decide +kernel
theorem dX8_undo_53 : decode cX8_undo 53 = .ok (.iinc 1 1, 3) := by decide +kernel
theorem dX8_undo_56 : decode cX8_undo 56 = .ok (.goto (-29), 3) := by decide +kernel
theorem dX8_undo_59 : decode cX8_undo 59 = .ok (.aload_n 0, 1) := by decide +kernel
theorem dX8_undo_60 : decode cX8_undo 60 = .ok (.getfield 189, 3) := by decide +kernel
theorem dX8_undo_63 : decode cX8_undo 63 = .ok (.ireturn, 1) := by decide +kernel
theorem dX8_crowd_0 : decode cX8_crowd 0 = .ok (.aload_n 0, 1) := by decide +kernel
theorem dX8_crowd_1 : decode cX8_crowd 1 = .ok (.iconst 0, 1) := by decide +kernel
theorem dX8_crowd_2 : decode cX8_crowd 2 = .ok (.putfield 59, 3) := by decide +kernel
theorem dX8_crowd_5 : decode cX8_crowd 5 = .ok (.aload_n 0, 1) := by decide +kernel
theorem dX8_crowd_6 : decode cX8_crowd 6 = .ok (.iload_n 1, 1) := by decide +kernel
theorem dX8_crowd_7 : decode cX8_crowd 7 = .ok (.invokevirtual 242, 3) := by decide +kernel
theorem dX8_crowd_10 : decode cX8_crowd 10 = .ok (.ifCond .eq 24, 3) := by decide +kernel
theorem dX8_crowd_13 : decode cX8_crowd 13 = .ok (.iload_n 2, 1) := by decide +kernel
theorem dX8_crowd_14 : decode cX8_crowd 14 = .ok (.i2l, 1) := by decide +kernel
theorem dX8_crowd_15 : decode cX8_crowd 15 = .ok (.lconst 0, 1) := by decide +kernel
theorem dX8_crowd_16 : decode cX8_crowd 16 = .ok (.lconst 1, 1) := by decide +kernel
theorem dX8_crowd_17 : decode cX8_crowd 17 = .ok (.invokestatic 69, 3) := by decide +kernel
theorem dX8_crowd_20 : decode cX8_crowd 20 = .ok (.ifCond .eq 14, 3) := by decide +kernel
theorem dX8_crowd_23 : decode cX8_crowd 23 = .ok (.aload_n 0, 1) := by decide +kernel
theorem dX8_crowd_24 : decode cX8_crowd 24 = .ok (.iload_n 1, 1) := by decide +kernel
theorem dX8_crowd_25 : decode cX8_crowd 25 = .ok (.iconst 1, 1) := by decide +kernel
theorem dX8_crowd_26 : decode cX8_crowd 26 = .ok (.iload_n 2, 1) := by decide +kernel
theorem dX8_crowd_27 : decode cX8_crowd 27 = .ok (.iadd, 1) := by decide +kernel
theorem dX8_crowd_28 : decode cX8_crowd 28 = .ok (.invokevirtual 201, 3) := by decide +kernel
theorem dX8_crowd_31 : decode cX8_crowd 31 = .ok (.goto 5, 3) := by decide +kernel
theorem dX8_crowd_34 : decode cX8_crowd 34 = .ok (.ldc 79, 2) := by decide +kernel
theorem dX8_crowd_36 : decode cX8_crowd 36 = .ok (.ireturn, 1) := by decide +kernel
theorem dX8_room_0 : decode cX8_room 0 = .ok (.aload_n 0, 1) := by decide +kernel
theorem dX8_room_1 : decode cX8_room 1 = .ok (.iconst 0, 1) := by decide +kernel
theorem dX8_room_2 : decode cX8_room 2 = .ok (.putfield 59, 3) := by decide +kernel
theorem dX8_room_5 : decode cX8_room 5 = .ok (.aload_n 0, 1) := by decide +kernel
theorem dX8_room_6 : decode cX8_room 6 = .ok (.iload_n 1, 1) := by decide +kernel
theorem dX8_room_7 : decode cX8_room 7 = .ok (.invokevirtual 239, 3) := by decide +kernel
theorem dX8_room_10 : decode cX8_room 10 = .ok (.ifCond .eq 15, 3) := by decide +kernel
theorem dX8_room_13 : decode cX8_room 13 = .ok (.iload_n 2, 1) := by decide +kernel
theorem dX8_room_14 : decode cX8_room 14 = .ok (.i2l, 1) := by decide +kernel
theorem dX8_room_15 : decode cX8_room 15 = .ok (.lconst 0, 1) := by decide +kernel
theorem dX8_room_16 : decode cX8_room 16 = .ok (.ldc2_w 77, 3) := by decide +kernel
theorem dX8_room_19 : decode cX8_room 19 = .ok (.invokestatic 69, 3) := by decide +kernel
theorem dX8_room_22 : decode cX8_room 22 = .ok (.ifCond .ne 6, 3) := by decide +kernel
theorem dX8_room_25 : decode cX8_room 25 = .ok (.ldc 79, 2) := by decide +kernel
theorem dX8_room_27 : decode cX8_room 27 = .ok (.ireturn, 1) := by decide +kernel
theorem dX8_room_28 : decode cX8_room 28 = .ok (.aload_n 0, 1) := by decide +kernel
theorem dX8_room_29 : decode cX8_room 29 = .ok (.invokevirtual 219, 3) := by decide +kernel
theorem dX8_room_32 : decode cX8_room 32 = .ok (.aload_n 0, 1) := by decide +kernel
theorem dX8_room_33 : decode cX8_room 33 = .ok (.invokevirtual 207, 3) := by decide +kernel
theorem dX8_room_36 : decode cX8_room 36 = .ok (.iload_n 2, 1) := by decide +kernel
theorem dX8_room_37 : decode cX8_room 37 = .ok (.ifCond .ne 14, 3) := by decide +kernel
theorem dX8_room_40 : decode cX8_room 40 = .ok (.aload_n 0, 1) := by decide +kernel
theorem dX8_room_41 : decode cX8_room 41 = .ok (.getfield 19, 3) := by decide +kernel
theorem dX8_room_44 : decode cX8_room 44 = .ok (.iconst 4, 1) := by decide +kernel
theorem dX8_room_45 : decode cX8_room 45 = .ok (.iload_n 1, 1) := by decide +kernel
theorem dX8_room_46 : decode cX8_room 46 = .ok (.iadd, 1) := by decide +kernel
theorem dX8_room_47 : decode cX8_room 47 = .ok (.iaload, 1) := by decide +kernel
theorem dX8_room_48 : decode cX8_room 48 = .ok (.goto 26, 3) := by decide +kernel
theorem dX8_room_51 : decode cX8_room 51 = .ok (.iload_n 2, 1) := by decide +kernel
theorem dX8_room_52 : decode cX8_room 52 = .ok (.iconst 1, 1) := by decide +kernel
theorem dX8_room_53 : decode cX8_room 53 = .ok (.if_icmp .ne 12, 3) := by decide +kernel
theorem dX8_room_56 : decode cX8_room 56 = .ok (.aload_n 0, 1) := by decide +kernel
theorem dX8_room_57 : decode cX8_room 57 = .ok (.getfield 40, 3) := by decide +kernel
theorem dX8_room_60 : decode cX8_room 60 = .ok (.iload_n 1, 1) := by decide +kernel
theorem dX8_room_61 : decode cX8_room 61 = .ok (.iaload, 1) := by decide +kernel
theorem dX8_room_62 : decode cX8_room 62 = .ok (.goto 12, 3) := by decide +kernel
theorem dX8_room_65 : decode cX8_room 65 = .ok (.aload_n 0, 1) := by decide +kernel
theorem dX8_room_66 : decode cX8_room 66 = .ok (.getfield 19, 3) := by decide +kernel
theorem dX8_room_69 : decode cX8_room 69 = .ok (.bipush 10, 2) := by decide +kernel
theorem dX8_room_71 : decode cX8_room 71 = .ok (.iload_n 1, 1) := by decide +kernel
theorem dX8_room_72 : decode cX8_room 72 = .ok (.iadd, 1) := by decide +kernel
theorem dX8_room_73 : decode cX8_room 73 = .ok (.iaload, 1) := by decide +kernel
theorem dX8_room_74 : decode cX8_room 74 = .ok (.ireturn, 1) := by decide +kernel
theorem dX8_ahead_0 : decode cX8_ahead 0 = .ok (.aload_n 0, 1) := by decide +kernel
theorem dX8_ahead_1 : decode cX8_ahead 1 = .ok (.iconst 0, 1) := by decide +kernel
theorem dX8_ahead_2 : decode cX8_ahead 2 = .ok (.putfield 59, 3) := by decide +kernel
theorem dX8_ahead_5 : decode cX8_ahead 5 = .ok (.aload_n 0, 1) := by decide +kernel
theorem dX8_ahead_6 : decode cX8_ahead 6 = .ok (.iload_n 1, 1) := by decide +kernel
theorem dX8_ahead_7 : decode cX8_ahead 7 = .ok (.invokevirtual 242, 3) := by decide +kernel
theorem dX8_ahead_10 : decode cX8_ahead 10 = .ok (.ifCond .eq 15, 3) := by decide +kernel
theorem dX8_ahead_13 : decode cX8_ahead 13 = .ok (.iload_n 2, 1) := by decide +kernel
theorem dX8_ahead_14 : decode cX8_ahead 14 = .ok (.i2l, 1) := by decide +kernel
theorem dX8_ahead_15 : decode cX8_ahead 15 = .ok (.lconst 0, 1) := by decide +kernel
theorem dX8_ahead_16 : decode cX8_ahead 16 = .ok (.ldc2_w 247, 3) := by decide +kernel
theorem dX8_ahead_19 : decode cX8_ahead 19 = .ok (.invokestatic 69, 3) := by decide +kernel
theorem dX8_ahead_22 : decode cX8_ahead 22 = .ok (.ifCond .ne 6, 3) := by decide +kernel
theorem dX8_ahead_25 : decode cX8_ahead 25 = .ok (.ldc 79, 2) := by decide +kernel
theorem dX8_ahead_27 : decode cX8_ahead 27 = .ok (.ireturn, 1) := by decide +kernel
theorem dX8_ahead_28 : decode cX8_ahead 28 = .ok (.aload_n 0, 1) := by decide +kernel
theorem dX8_ahead_29 : decode cX8_ahead 29 = .ok (.invokevirtual 219, 3) := by decide +kernel
theorem dX8_ahead_32 : decode cX8_ahead 32 = .ok (.aload_n 0, 1) := by decide +kernel
theorem dX8_ahead_33 : decode cX8_ahead 33 = .ok (.iload_n 2, 1) := by decide +kernel
theorem dX8_ahead_34 : decode cX8_ahead 34 = .ok (.invokevirtual 249, 3) := by decide +kernel
theorem dX8_ahead_37 : decode cX8_ahead 37 = .ok (.aload_n 0, 1) := by decide +kernel
theorem dX8_ahead_38 : decode cX8_ahead 38 = .ok (.getfield 31, 3) := by decide +kernel
theorem dX8_ahead_41 : decode cX8_ahead 41 = .ok (.iload_n 1, 1) := by decide +kernel
theorem dX8_ahead_42 : decode cX8_ahead 42 = .ok (.iaload, 1) := by decide +kernel
theorem dX8_ahead_43 : decode cX8_ahead 43 = .ok (.ireturn, 1) := by decide +kernel
theorem dX8_roomAhead_0 : decode cX8_roomAhead 0 = .ok (.aload_n 0, 1) := by decide +kernel
theorem dX8_roomAhead_1 : decode cX8_roomAhead 1 = .ok (.iconst 0, 1) := by decide +kernel
theorem dX8_roomAhead_2 : decode cX8_roomAhead 2 = .ok (.putfield 59, 3) := by decide +kernel
theorem dX8_roomAhead_5 : decode cX8_roomAhead 5 = .ok (.aload_n 0, 1) := by decide +kernel
theorem dX8_roomAhead_6 : decode cX8_roomAhead 6 = .ok (.iload_n 1, 1) := by decide +kernel
theorem dX8_roomAhead_7 : decode cX8_roomAhead 7 = .ok (.invokevirtual 239, 3) := by decide +kernel
theorem dX8_roomAhead_10 : decode cX8_roomAhead 10 = .ok (.ifCond .eq 25, 3) := by decide +kernel
theorem dX8_roomAhead_13 : decode cX8_roomAhead 13 = .ok (.iload_n 2, 1) := by decide +kernel
theorem dX8_roomAhead_14 : decode cX8_roomAhead 14 = .ok (.i2l, 1) := by decide +kernel
theorem dX8_roomAhead_15 : decode cX8_roomAhead 15 = .ok (.lconst 0, 1) := by decide +kernel
theorem dX8_roomAhead_16 : decode cX8_roomAhead 16 = .ok (.ldc2_w 247, 3) := by decide +kernel
theorem dX8_roomAhead_19 : decode cX8_roomAhead 19 = .ok (.invokestatic 69, 3) := by decide +kernel
theorem dX8_roomAhead_22 : decode cX8_roomAhead 22 = .ok (.ifCond .eq 13, 3) := by decide +kernel
theorem dX8_roomAhead_25 : decode cX8_roomAhead 25 = .ok (.iload_n 3, 1) := by decide +kernel
theorem dX8_roomAhead_26 : decode cX8_roomAhead 26 = .ok (.i2l, 1) := by decide +kernel
theorem dX8_roomAhead_27 : decode cX8_roomAhead 27 = .ok (.lconst 0, 1) := by decide +kernel
theorem dX8_roomAhead_28 : decode cX8_roomAhead 28 = .ok (.lconst 1, 1) := by decide +kernel
theorem dX8_roomAhead_29 : decode cX8_roomAhead 29 = .ok (.invokestatic 69, 3) := by decide +kernel
theorem dX8_roomAhead_32 : decode cX8_roomAhead 32 = .ok (.ifCond .ne 6, 3) := by decide +kernel
theorem dX8_roomAhead_35 : decode cX8_roomAhead 35 = .ok (.ldc 79, 2) := by decide +kernel
theorem dX8_roomAhead_37 : decode cX8_roomAhead 37 = .ok (.ireturn, 1) := by decide +kernel
theorem dX8_roomAhead_38 : decode cX8_roomAhead 38 = .ok (.aload_n 0, 1) := by decide +kernel
theorem dX8_roomAhead_39 : decode cX8_roomAhead 39 = .ok (.invokevirtual 219, 3) := by decide +kernel
theorem dX8_roomAhead_42 : decode cX8_roomAhead 42 = .ok (.iconst 0, 1) := by decide +kernel
theorem dX8_roomAhead_43 : decode cX8_roomAhead 43 = .ok (.istore 4, 2) := by decide +kernel
theorem dX8_roomAhead_45 : decode cX8_roomAhead 45 = .ok (.iconst 0, 1) := by decide +kernel
theorem dX8_roomAhead_46 : decode cX8_roomAhead 46 = .ok (.istore 5, 2) := by decide +kernel
theorem dX8_roomAhead_48 : decode cX8_roomAhead 48 = .ok (.iload 5, 2) := by decide +kernel
theorem dX8_roomAhead_50 : decode cX8_roomAhead 50 = .ok (.iload_n 2, 1) := by decide +kernel
theorem dX8_roomAhead_51 : decode cX8_roomAhead 51 = .ok (.if_icmp .ge 58, 3) := by decide +kernel
theorem dX8_roomAhead_54 : decode cX8_roomAhead 54 = .ok (.aload_n 0, 1) := by decide +kernel
theorem dX8_roomAhead_55 : decode cX8_roomAhead 55 = .ok (.invokevirtual 213, 3) := by decide +kernel
theorem dX8_roomAhead_58 : decode cX8_roomAhead 58 = .ok (.istore 6, 2) := by decide +kernel
theorem dX8_roomAhead_60 : decode cX8_roomAhead 60 = .ok (.aload_n 0, 1) := by decide +kernel
theorem dX8_roomAhead_61 : decode cX8_roomAhead 61 = .ok (.invokevirtual 207, 3) := by decide +kernel
theorem dX8_roomAhead_64 : decode cX8_roomAhead 64 = .ok (.iload 4, 2) := by decide +kernel
theorem dX8_roomAhead_66 : decode cX8_roomAhead 66 = .ok (.aload_n 0, 1) := by decide +kernel
theorem dX8_roomAhead_67 : decode cX8_roomAhead 67 = .ok (.getfield 40, 3) := by decide +kernel
theorem dX8_roomAhead_70 : decode cX8_roomAhead 70 = .ok (.iload_n 1, 1) := by decide +kernel
theorem dX8_roomAhead_71 : decode cX8_roomAhead 71 = .ok (.iaload, 1) := by decide +kernel
theorem dX8_roomAhead_72 : decode cX8_roomAhead 72 = .ok (.aload_n 0, 1) := by decide +kernel
theorem dX8_roomAhead_73 : decode cX8_roomAhead 73 = .ok (.getfield 19, 3) := by decide +kernel
theorem dX8_roomAhead_76 : decode cX8_roomAhead 76 = .ok (.iconst 4, 1) := by decide +kernel
theorem dX8_roomAhead_77 : decode cX8_roomAhead 77 = .ok (.iload_n 1, 1) := by decide +kernel
theorem dX8_roomAhead_78 : decode cX8_roomAhead 78 = .ok (.iadd, 1) := by decide +kernel
theorem dX8_roomAhead_79 : decode cX8_roomAhead 79 = .ok (.iaload, 1) := by decide +kernel
theorem dX8_roomAhead_80 : decode cX8_roomAhead 80 = .ok (.if_icmp .ge 12, 3) := by decide +kernel
theorem dX8_roomAhead_83 : decode cX8_roomAhead 83 = .ok (.aload_n 0, 1) := by decide +kernel
theorem dX8_roomAhead_84 : decode cX8_roomAhead 84 = .ok (.getfield 40, 3) := by decide +kernel
theorem dX8_roomAhead_87 : decode cX8_roomAhead 87 = .ok (.iload_n 1, 1) := by decide +kernel
theorem dX8_roomAhead_88 : decode cX8_roomAhead 88 = .ok (.iaload, 1) := by decide +kernel
theorem dX8_roomAhead_89 : decode cX8_roomAhead 89 = .ok (.goto 11, 3) := by decide +kernel
theorem dX8_roomAhead_92 : decode cX8_roomAhead 92 = .ok (.aload_n 0, 1) := by decide +kernel
theorem dX8_roomAhead_93 : decode cX8_roomAhead 93 = .ok (.getfield 19, 3) := by decide +kernel
theorem dX8_roomAhead_96 : decode cX8_roomAhead 96 = .ok (.iconst 4, 1) := by decide +kernel
theorem dX8_roomAhead_97 : decode cX8_roomAhead 97 = .ok (.iload_n 1, 1) := by decide +kernel
theorem dX8_roomAhead_98 : decode cX8_roomAhead 98 = .ok (.iadd, 1) := by decide +kernel
theorem dX8_roomAhead_99 : decode cX8_roomAhead 99 = .ok (.iaload, 1) := by decide +kernel
theorem dX8_roomAhead_100 : decode cX8_roomAhead 100 = .ok (.iadd, 1) := by decide +kernel
theorem dX8_roomAhead_101 : decode cX8_roomAhead 101 = .ok (.istore 4, 2) := by decide +kernel
theorem dX8_roomAhead_103 : decode cX8_roomAhead 103 = .ok (.iinc 5 1, 3) := by decide +kernel
theorem dX8_roomAhead_106 : decode cX8_roomAhead 106 = .ok (.goto (-58), 3) := by decide +kernel
theorem dX8_roomAhead_109 : decode cX8_roomAhead 109 = .ok (.aload_n 0, 1) := by decide +kernel
theorem dX8_roomAhead_110 : decode cX8_roomAhead 110 = .ok (.invokevirtual 207, 3) := by decide +kernel
theorem dX8_roomAhead_113 : decode cX8_roomAhead 113 = .ok (.iload_n 3, 1) := by decide +kernel
theorem dX8_roomAhead_114 : decode cX8_roomAhead 114 = .ok (.ifCond .ne 12, 3) := by decide +kernel
theorem dX8_roomAhead_117 : decode cX8_roomAhead 117 = .ok (.aload_n 0, 1) := by decide +kernel
theorem dX8_roomAhead_118 : decode cX8_roomAhead 118 = .ok (.getfield 40, 3) := by decide +kernel
theorem dX8_roomAhead_121 : decode cX8_roomAhead 121 = .ok (.iload_n 1, 1) := by decide +kernel
theorem dX8_roomAhead_122 : decode cX8_roomAhead 122 = .ok (.iaload, 1) := by decide +kernel
theorem dX8_roomAhead_123 : decode cX8_roomAhead 123 = .ok (.goto 5, 3) := by decide +kernel
theorem dX8_roomAhead_126 : decode cX8_roomAhead 126 = .ok (.iload 4, 2) := by decide +kernel
theorem dX8_roomAhead_128 : decode cX8_roomAhead 128 = .ok (.ireturn, 1) := by decide +kernel
theorem dX8_restIn_0 : decode cX8_restIn 0 = .ok (.iconst 0, 1) := by decide +kernel
theorem dX8_restIn_1 : decode cX8_restIn 1 = .ok (.istore_n 1, 1) := by decide +kernel
theorem dX8_restIn_2 : decode cX8_restIn 2 = .ok (.iconst 0, 1) := by decide +kernel
theorem dX8_restIn_3 : decode cX8_restIn 3 = .ok (.istore_n 2, 1) := by decide +kernel
theorem dX8_restIn_4 : decode cX8_restIn 4 = .ok (.iload_n 2, 1) := by decide +kernel
theorem dX8_restIn_5 : decode cX8_restIn 5 = .ok (.bipush 61, 2) := by decide +kernel
theorem dX8_restIn_7 : decode cX8_restIn 7 = .ok (.if_icmp .gt 33, 3) := by decide +kernel
theorem dX8_restIn_10 : decode cX8_restIn 10 = .ok (.aload_n 0, 1) := by decide +kernel
theorem dX8_restIn_11 : decode cX8_restIn 11 = .ok (.invokevirtual 213, 3) := by decide +kernel
theorem dX8_restIn_14 : decode cX8_restIn 14 = .ok (.ifCond .ne 9, 3) := by decide +kernel
theorem dX8_restIn_17 : decode cX8_restIn 17 = .ok (.iload_n 1, 1) := by decide +kernel
theorem dX8_restIn_18 : decode cX8_restIn 18 = .ok (.iconst 1, 1) := by decide +kernel
theorem dX8_restIn_19 : decode cX8_restIn 19 = .ok (.iadd, 1) := by decide +kernel
theorem dX8_restIn_20 : decode cX8_restIn 20 = .ok (.goto 4, 3) := by decide +kernel
theorem dX8_restIn_23 : decode cX8_restIn 23 = .ok (.iconst 0, 1) := by decide +kernel
theorem dX8_restIn_24 : decode cX8_restIn 24 = .ok (.istore_n 1, 1) := by decide +kernel
