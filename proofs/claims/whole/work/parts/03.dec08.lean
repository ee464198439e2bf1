/-! decode rows: X7 -/
theorem dX7_init_0 : decode cX7_init 0 = .ok (.aload_n 0, 1) := by decide +kernel
theorem dX7_init_1 : decode cX7_init 1 = .ok (.invokespecial 1, 3) := by decide +kernel
theorem dX7_init_4 : decode cX7_init 4 = .ok (.aload_n 0, 1) := by decide +kernel
theorem dX7_init_5 : decode cX7_init 5 = .ok (.bipush 8, 2) := by decide +kernel
theorem dX7_init_7 : decode cX7_init 7 = .ok (.anewarray 9, 3) := by decide +kernel
theorem dX7_init_10 : decode cX7_init 10 = .ok (.putfield 11, 3) := by decide +kernel
theorem dX7_init_13 : decode cX7_init 13 = .ok (.aload_n 0, 1) := by decide +kernel
theorem dX7_init_14 : decode cX7_init 14 = .ok (.new 15, 3) := by decide +kernel
theorem dX7_init_17 : decode cX7_init 17 = .ok (.dup, 1) := by decide +kernel
theorem dX7_init_18 : decode cX7_init 18 = .ok (.invokespecial 17, 3) := by decide +kernel
theorem dX7_init_21 : decode cX7_init 21 = .ok (.putfield 18, 3) := by decide +kernel
theorem dX7_init_24 : decode cX7_init 24 = .ok (.aload_n 0, 1) := by decide +kernel
theorem dX7_init_25 : decode cX7_init 25 = .ok (.new 22, 3) := by decide +kernel
theorem dX7_init_28 : decode cX7_init 28 = .ok (.dup, 1) := by decide +kernel
theorem dX7_init_29 : decode cX7_init 29 = .ok (.aload_n 0, 1) := by decide +kernel
theorem dX7_init_30 : decode cX7_init 30 = .ok (.getfield 18, 3) := by decide +kernel
theorem dX7_init_33 : decode cX7_init 33 = .ok (.invokespecial 24, 3) := by decide +kernel
theorem dX7_init_36 : decode cX7_init 36 = .ok (.putfield 27, 3) := by decide +kernel
theorem dX7_init_39 : decode cX7_init 39 = .ok (.aload_n 0, 1) := by decide +kernel
theorem dX7_init_40 : decode cX7_init 40 = .ok (.new 31, 3) := by decide +kernel
theorem dX7_init_43 : decode cX7_init 43 = .ok (.dup, 1) := by decide +kernel
theorem dX7_init_44 : decode cX7_init 44 = .ok (.invokespecial 33, 3) := by decide +kernel
theorem dX7_init_47 : decode cX7_init 47 = .ok (.putfield 34, 3) := by decide +kernel
theorem dX7_init_50 : decode cX7_init 50 = .ok (.aload_n 0, 1) := by decide +kernel
theorem dX7_init_51 : decode cX7_init 51 = .ok (.iconst 2, 1) := by decide +kernel
theorem dX7_init_52 : decode cX7_init 52 = .ok (.anewarray 31, 3) := by decide +kernel
theorem dX7_init_55 : decode cX7_init 55 = .ok (.putfield 38, 3) := by decide +kernel
theorem dX7_init_58 : decode cX7_init 58 = .ok (.aload_n 0, 1) := by decide +kernel
theorem dX7_init_59 : decode cX7_init 59 = .ok (.new 42, 3) := by decide +kernel
theorem dX7_init_62 : decode cX7_init 62 = .ok (.dup, 1) := by decide +kernel
theorem dX7_init_63 : decode cX7_init 63 = .ok (.invokespecial 44, 3) := by decide +kernel
theorem dX7_init_66 : decode cX7_init 66 = .ok (.putfield 45, 3) := by decide +kernel
theorem dX7_init_69 : decode cX7_init 69 = .ok (.aload_n 0, 1) := by decide +kernel
theorem dX7_init_70 : decode cX7_init 70 = .ok (.new 49, 3) := by decide +kernel
theorem dX7_init_73 : decode cX7_init 73 = .ok (.dup, 1) := by decide +kernel
theorem dX7_init_74 : decode cX7_init 74 = .ok (.aload_n 0, 1) := by decide +kernel
theorem dX7_init_75 : decode cX7_init 75 = .ok (.getfield 34, 3) := by decide +kernel
theorem dX7_init_78 : decode cX7_init 78 = .ok (.invokespecial 51, 3) := by decide +kernel
theorem dX7_init_81 : decode cX7_init 81 = .ok (.putfield 54, 3) := by decide +kernel
theorem dX7_init_84 : decode cX7_init 84 = .ok (.aload_n 0, 1) := by decide +kernel
theorem dX7_init_85 : decode cX7_init 85 = .ok (.new 58, 3) := by decide +kernel
theorem dX7_init_88 : decode cX7_init 88 = .ok (.dup, 1) := by decide +kernel
theorem dX7_init_89 : decode cX7_init 89 = .ok (.aload_n 0, 1) := by decide +kernel
theorem dX7_init_90 : decode cX7_init 90 = .ok (.getfield 34, 3) := by decide +kernel
theorem dX7_init_93 : decode cX7_init 93 = .ok (.invokespecial 60, 3) := by decide +kernel
theorem dX7_init_96 : decode cX7_init 96 = .ok (.putfield 61, 3) := by decide +kernel
theorem dX7_init_99 : decode cX7_init 99 = .ok (.iconst 0, 1) := by decide +kernel
theorem dX7_init_100 : decode cX7_init 100 = .ok (.istore_n 1, 1) := by decide +kernel
theorem dX7_init_101 : decode cX7_init 101 = .ok (.iload_n 1, 1) := by decide +kernel
theorem dX7_init_102 : decode cX7_init 102 = .ok (.bipush 8, 2) := by decide +kernel
theorem dX7_init_104 : decode cX7_init 104 = .ok (.if_icmp .ge 22, 3) := by decide +kernel
theorem dX7_init_107 : decode cX7_init 107 = .ok (.aload_n 0, 1) := by decide +kernel
theorem dX7_init_108 : decode cX7_init 108 = .ok (.getfield 11, 3) := by decide +kernel
theorem dX7_init_111 : decode cX7_init 111 = .ok (.iload_n 1, 1) := by decide +kernel
theorem dX7_init_112 : decode cX7_init 112 = .ok (.new 9, 3) := by decide +kernel
theorem dX7_init_115 : decode cX7_init 115 = .ok (.dup, 1) := by decide +kernel
theorem dX7_init_116 : decode cX7_init 116 = .ok (.invokespecial 65, 3) := by decide +kernel
theorem dX7_init_119 : decode cX7_init 119 = .ok (.aastore, 1) := by decide +kernel
theorem dX7_init_120 : decode cX7_init 120 = .ok (.iinc 1 1, 3) := by decide +kernel
theorem dX7_init_123 : decode cX7_init 123 = .ok (.goto (-22), 3) := by decide +kernel
theorem dX7_init_126 : decode cX7_init 126 = .ok (.iconst 0, 1) := by decide +kernel
theorem dX7_init_127 : decode cX7_init 127 = .ok (.istore_n 1, 1) := by decide +kernel
theorem dX7_init_128 : decode cX7_init 128 = .ok (.iload_n 1, 1) := by decide +kernel
theorem dX7_init_129 : decode cX7_init 129 = .ok (.iconst 2, 1) := by decide +kernel
theorem dX7_init_130 : decode cX7_init 130 = .ok (.if_icmp .ge 22, 3) := by decide +kernel
theorem dX7_init_133 : decode cX7_init 133 = .ok (.aload_n 0, 1) := by decide +kernel
theorem dX7_init_134 : decode cX7_init 134 = .ok (.getfield 38, 3) := by decide +kernel
theorem dX7_init_137 : decode cX7_init 137 = .ok (.iload_n 1, 1) := by decide +kernel
theorem dX7_init_138 : decode cX7_init 138 = .ok (.new 31, 3) := by decide +kernel
theorem dX7_init_141 : decode cX7_init 141 = .ok (.dup, 1) := by decide +kernel
theorem dX7_init_142 : decode cX7_init 142 = .ok (.invokespecial 33, 3) := by decide +kernel
theorem dX7_init_145 : decode cX7_init 145 = .ok (.aastore, 1) := by decide +kernel
theorem dX7_init_146 : decode cX7_init 146 = .ok (.iinc 1 1, 3) := by decide +kernel
theorem dX7_init_149 : decode cX7_init 149 = .ok (.goto (-21), 3) := by decide +kernel
theorem dX7_init_152 : decode cX7_init 152 = .ok (.return_, 1) := by decide +kernel
theorem dX7_row_0 : decode cX7_row 0 = .ok (.iload_n 1, 1) := by decide +kernel
theorem dX7_row_1 : decode cX7_row 1 = .ok (.invokestatic 66, 3) := by decide +kernel
theorem dX7_row_4 : decode cX7_row 4 = .ok (.ifCond .eq 18, 3) := by decide +kernel
theorem dX7_row_7 : decode cX7_row 7 = .ok (.iload_n 2, 1) := by decide +kernel
theorem dX7_row_8 : decode cX7_row 8 = .ok (.ifCond .lt 14, 3) := by decide +kernel
theorem dX7_row_11 : decode cX7_row 11 = .ok (.iload_n 2, 1) := by decide +kernel
theorem dX7_row_12 : decode cX7_row 12 = .ok (.iconst 3, 1) := by decide +kernel
theorem dX7_row_13 : decode cX7_row 13 = .ok (.if_icmp .ge 9, 3) := by decide +kernel
theorem dX7_row_16 : decode cX7_row 16 = .ok (.iload_n 3, 1) := by decide +kernel
theorem dX7_row_17 : decode cX7_row 17 = .ok (.bipush 40, 2) := by decide +kernel
theorem dX7_row_19 : decode cX7_row 19 = .ok (.if_icmp .le 6, 3) := by decide +kernel
theorem dX7_row_22 : decode cX7_row 22 = .ok (.ldc 70, 2) := by decide +kernel
theorem dX7_row_24 : decode cX7_row 24 = .ok (.ireturn, 1) := by decide +kernel
theorem dX7_row_25 : decode cX7_row 25 = .ok (.iload_n 3, 1) := by decide +kernel
theorem dX7_row_26 : decode cX7_row 26 = .ok (.ifCond .ge 9, 3) := by decide +kernel
theorem dX7_row_29 : decode cX7_row 29 = .ok (.aload_n 0, 1) := by decide +kernel
theorem dX7_row_30 : decode cX7_row 30 = .ok (.iconst 4, 1) := by decide +kernel
theorem dX7_row_31 : decode cX7_row 31 = .ok (.invokevirtual 71, 3) := by decide +kernel
theorem dX7_row_34 : decode cX7_row 34 = .ok (.ireturn, 1) := by decide +kernel
theorem dX7_row_35 : decode cX7_row 35 = .ok (.aload_n 0, 1) := by decide +kernel
theorem dX7_row_36 : decode cX7_row 36 = .ok (.getfield 11, 3) := by decide +kernel
theorem dX7_row_39 : decode cX7_row 39 = .ok (.iload_n 1, 1) := by decide +kernel
theorem dX7_row_40 : decode cX7_row 40 = .ok (.aaload, 1) := by decide +kernel
theorem dX7_row_41 : decode cX7_row 41 = .ok (.iload_n 2, 1) := by decide +kernel
theorem dX7_row_42 : decode cX7_row 42 = .ok (.iload_n 3, 1) := by decide +kernel
theorem dX7_row_43 : decode cX7_row 43 = .ok (.invokevirtual 75, 3) := by decide +kernel
theorem dX7_row_46 : decode cX7_row 46 = .ok (.aload_n 0, 1) := by decide +kernel
theorem dX7_row_47 : decode cX7_row 47 = .ok (.iconst 0, 1) := by decide +kernel
theorem dX7_row_48 : decode cX7_row 48 = .ok (.putfield 79, 3) := by decide +kernel
theorem dX7_row_51 : decode cX7_row 51 = .ok (.iload_n 3, 1) := by decide +kernel
theorem dX7_row_52 : decode cX7_row 52 = .ok (.ireturn, 1) := by decide +kernel
theorem dX7_set_0 : decode cX7_set 0 = .ok (.iload_n 1, 1) := by decide +kernel
theorem dX7_set_1 : decode cX7_set 1 = .ok (.invokestatic 66, 3) := by decide +kernel
theorem dX7_set_4 : decode cX7_set 4 = .ok (.ifCond .ne 6, 3) := by decide +kernel
theorem dX7_set_7 : decode cX7_set 7 = .ok (.ldc 70, 2) := by decide +kernel
theorem dX7_set_9 : decode cX7_set 9 = .ok (.ireturn, 1) := by decide +kernel
theorem dX7_set_10 : decode cX7_set 10 = .ok (.aload_n 0, 1) := by decide +kernel
theorem dX7_set_11 : decode cX7_set 11 = .ok (.getfield 11, 3) := by decide +kernel
theorem dX7_set_14 : decode cX7_set 14 = .ok (.iload_n 1, 1) := by decide +kernel
theorem dX7_set_15 : decode cX7_set 15 = .ok (.aaload, 1) := by decide +kernel
theorem dX7_set_16 : decode cX7_set 16 = .ok (.astore 4, 2) := by decide +kernel
theorem dX7_set_18 : decode cX7_set 18 = .ok (.aload 4, 2) := by decide +kernel
theorem dX7_set_20 : decode cX7_set 20 = .ok (.getfield 83, 3) := by decide +kernel
theorem dX7_set_23 : decode cX7_set 23 = .ok (.ifCond .ne 9, 3) := by decide +kernel
theorem dX7_set_26 : decode cX7_set 26 = .ok (.aload_n 0, 1) := by decide +kernel
theorem dX7_set_27 : decode cX7_set 27 = .ok (.iconst 1, 1) := by decide +kernel
theorem dX7_set_28 : decode cX7_set 28 = .ok (.invokevirtual 71, 3) := by decide +kernel
theorem dX7_set_31 : decode cX7_set 31 = .ok (.ireturn, 1) := by decide +kernel
theorem dX7_set_32 : decode cX7_set 32 = .ok (.aload 4, 2) := by decide +kernel
theorem dX7_set_34 : decode cX7_set 34 = .ok (.iload_n 2, 1) := by decide +kernel
theorem dX7_set_35 : decode cX7_set 35 = .ok (.iconst 1, 1) := by decide +kernel
theorem dX7_set_36 : decode cX7_set 36 = .ok (.invokevirtual 87, 3) := by decide +kernel
theorem dX7_set_39 : decode cX7_set 39 = .ok (.ifCond .ne 9, 3) := by decide +kernel
theorem dX7_set_42 : decode cX7_set 42 = .ok (.aload_n 0, 1) := by decide +kernel
theorem dX7_set_43 : decode cX7_set 43 = .ok (.iconst 2, 1) := by decide +kernel
theorem dX7_set_44 : decode cX7_set 44 = .ok (.invokevirtual 71, 3) := by decide +kernel
theorem dX7_set_47 : decode cX7_set 47 = .ok (.ireturn, 1) := by decide +kernel
theorem dX7_set_48 : decode cX7_set 48 = .ok (.aload_n 0, 1) := by decide +kernel
theorem dX7_set_49 : decode cX7_set 49 = .ok (.iconst 0, 1) := by decide +kernel
theorem dX7_set_50 : decode cX7_set 50 = .ok (.putfield 79, 3) := by decide +kernel
theorem dX7_set_53 : decode cX7_set 53 = .ok (.aload 4, 2) := by decide +kernel
theorem dX7_set_55 : decode cX7_set 55 = .ok (.iload_n 2, 1) := by decide +kernel
theorem dX7_set_56 : decode cX7_set 56 = .ok (.iload_n 3, 1) := by decide +kernel
theorem dX7_set_57 : decode cX7_set 57 = .ok (.invokevirtual 91, 3) := by decide +kernel
theorem dX7_set_60 : decode cX7_set 60 = .ok (.ireturn, 1) := by decide +kernel
theorem dX7_copy_0 : decode cX7_copy 0 = .ok (.iload_n 1, 1) := by decide +kernel
theorem dX7_copy_1 : decode cX7_copy 1 = .ok (.invokestatic 66, 3) := by decide +kernel
theorem dX7_copy_4 : decode cX7_copy 4 = .ok (.ifCond .eq 10, 3) := by decide +kernel
theorem dX7_copy_7 : decode cX7_copy 7 = .ok (.iload_n 3, 1) := by decide +kernel
theorem dX7_copy_8 : decode cX7_copy 8 = .ok (.invokestatic 66, 3) := by decide +kernel
theorem dX7_copy_11 : decode cX7_copy 11 = .ok (.ifCond .ne 6, 3) := by decide +kernel
theorem dX7_copy_14 : decode cX7_copy 14 = .ok (.ldc 70, 2) := by decide +kernel
theorem dX7_copy_16 : decode cX7_copy 16 = .ok (.ireturn, 1) := by decide +kernel
theorem dX7_copy_17 : decode cX7_copy 17 = .ok (.aload_n 0, 1) := by decide +kernel
theorem dX7_copy_18 : decode cX7_copy 18 = .ok (.getfield 11, 3) := by decide +kernel
theorem dX7_copy_21 : decode cX7_copy 21 = .ok (.iload_n 1, 1) := by decide +kernel
theorem dX7_copy_22 : decode cX7_copy 22 = .ok (.aaload, 1) := by decide +kernel
theorem dX7_copy_23 : decode cX7_copy 23 = .ok (.astore 6, 2) := by decide +kernel
theorem dX7_copy_25 : decode cX7_copy 25 = .ok (.aload_n 0, 1) := by decide +kernel
theorem dX7_copy_26 : decode cX7_copy 26 = .ok (.getfield 11, 3) := by decide +kernel
theorem dX7_copy_29 : decode cX7_copy 29 = .ok (.iload_n 3, 1) := by decide +kernel
theorem dX7_copy_30 : decode cX7_copy 30 = .ok (.aaload, 1) := by decide +kernel
theorem dX7_copy_31 : decode cX7_copy 31 = .ok (.astore 7, 2) := by decide +kernel
theorem dX7_copy_33 : decode cX7_copy 33 = .ok (.aload 6, 2) := by decide +kernel
theorem dX7_copy_35 : decode cX7_copy 35 = .ok (.getfield 83, 3) := by decide +kernel
theorem dX7_copy_38 : decode cX7_copy 38 = .ok (.ifCond .eq 11, 3) := by decide +kernel
theorem dX7_copy_41 : decode cX7_copy 41 = .ok (.aload 7, 2) := by decide +kernel
theorem dX7_copy_43 : decode cX7_copy 43 = .ok (.getfield 83, 3) := by decide +kernel
theorem dX7_copy_46 : decode cX7_copy 46 = .ok (.ifCond .ne 9, 3) := by decide +kernel
theorem dX7_copy_49 : decode cX7_copy 49 = .ok (.aload_n 0, 1) := by decide +kernel
theorem dX7_copy_50 : decode cX7_copy 50 = .ok (.iconst 1, 1) := by decide +kernel
theorem dX7_copy_51 : decode cX7_copy 51 = .ok (.invokevirtual 71, 3) := by decide +kernel
theorem dX7_copy_54 : decode cX7_copy 54 = .ok (.ireturn, 1) := by decide +kernel
theorem dX7_copy_55 : decode cX7_copy 55 = .ok (.aload 6, 2) := by decide +kernel
theorem dX7_copy_57 : decode cX7_copy 57 = .ok (.getfield 95, 3) := by decide +kernel
theorem dX7_copy_60 : decode cX7_copy 60 = .ok (.aload 7, 2) := by decide +kernel
theorem dX7_copy_62 : decode cX7_copy 62 = .ok (.getfield 95, 3) := by decide +kernel
theorem dX7_copy_65 : decode cX7_copy 65 = .ok (.if_icmp .eq 9, 3) := by decide +kernel
theorem dX7_copy_68 : decode cX7_copy 68 = .ok (.aload_n 0, 1) := by decide +kernel
theorem dX7_copy_69 : decode cX7_copy 69 = .ok (.iconst 5, 1) := by decide +kernel
theorem dX7_copy_70 : decode cX7_copy 70 = .ok (.invokevirtual 71, 3) := by decide +kernel
theorem dX7_copy_73 : decode cX7_copy 73 = .ok (.ireturn, 1) := by decide +kernel
theorem dX7_copy_74 : decode cX7_copy 74 = .ok (.aload 6, 2) := by decide +kernel
theorem dX7_copy_76 : decode cX7_copy 76 = .ok (.iload_n 2, 1) := by decide +kernel
theorem dX7_copy_77 : decode cX7_copy 77 = .ok (.iload 5, 2) := by decide +kernel
theorem dX7_copy_79 : decode cX7_copy 79 = .ok (.invokevirtual 87, 3) := by decide +kernel
theorem dX7_copy_82 : decode cX7_copy 82 = .ok (.ifCond .eq 15, 3) := by decide +kernel
theorem dX7_copy_85 : decode cX7_copy 85 = .ok (.aload 7, 2) := by decide +kernel
theorem dX7_copy_87 : decode cX7_copy 87 = .ok (.iload 4, 2) := by decide +kernel
theorem dX7_copy_89 : decode cX7_copy 89 = .ok (.iload 5, 2) := by decide +kernel
theorem dX7_copy_91 : decode cX7_copy 91 = .ok (.invokevirtual 87, 3) := by decide +kernel
theorem dX7_copy_94 : decode cX7_copy 94 = .ok (.ifCond .ne 9, 3) := by decide +kernel
theorem dX7_copy_97 : decode cX7_copy 97 = .ok (.aload_n 0, 1) := by decide +kernel
theorem dX7_copy_98 : decode cX7_copy 98 = .ok (.iconst 2, 1) := by decide +kernel
theorem dX7_copy_99 : decode cX7_copy 99 = .ok (.invokevirtual 71, 3) := by decide +kernel
theorem dX7_copy_102 : decode cX7_copy 102 = .ok (.ireturn, 1) := by decide +kernel
theorem dX7_copy_103 : decode cX7_copy 103 = .ok (.aload 6, 2) := by decide +kernel
theorem dX7_copy_105 : decode cX7_copy 105 = .ok (.getfield 98, 3) := by decide +kernel
theorem dX7_copy_108 : decode cX7_copy 108 = .ok (.iload_n 2, 1) := by decide +kernel
theorem dX7_copy_109 : decode cX7_copy 109 = .ok (.aload 7, 2) := by decide +kernel
theorem dX7_copy_111 : decode cX7_copy 111 = .ok (.getfield 98, 3) := by decide +kernel
theorem dX7_copy_114 : decode cX7_copy 114 = .ok (.iload 4, 2) := by decide +kernel
theorem dX7_copy_116 : decode cX7_copy 116 = .ok (.iload 5, 2) := by decide +kernel
theorem dX7_copy_118 : decode cX7_copy 118 = .ok (.invokestatic 102, 3) := by decide +kernel
theorem dX7_copy_121 : decode cX7_copy 121 = .ok (.aload_n 0, 1) := by decide +kernel
theorem dX7_copy_122 : decode cX7_copy 122 = .ok (.iconst 0, 1) := by decide +kernel
theorem dX7_copy_123 : decode cX7_copy 123 = .ok (.putfield 79, 3) := by decide +kernel
theorem dX7_copy_126 : decode cX7_copy 126 = .ok (.iload 5, 2) := by decide +kernel
theorem dX7_copy_128 : decode cX7_copy 128 = .ok (.ireturn, 1) := by decide +kernel
theorem dX7_drop_0 : decode cX7_drop 0 = .ok (.iload_n 1, 1) := by decide +kernel
theorem dX7_drop_1 : decode cX7_drop 1 = .ok (.invokestatic 66, 3) := by decide +kernel
theorem dX7_drop_4 : decode cX7_drop 4 = .ok (.ifCond .ne 6, 3) := by decide +kernel
theorem dX7_drop_7 : decode cX7_drop 7 = .ok (.ldc 70, 2) := by decide +kernel
theorem dX7_drop_9 : decode cX7_drop 9 = .ok (.ireturn, 1) := by decide +kernel
theorem dX7_drop_10 : decode cX7_drop 10 = .ok (.aload_n 0, 1) := by decide +kernel
theorem dX7_drop_11 : decode cX7_drop 11 = .ok (.getfield 11, 3) := by decide +kernel
theorem dX7_drop_14 : decode cX7_drop 14 = .ok (.iload_n 1, 1) := by decide +kernel
theorem dX7_drop_15 : decode cX7_drop 15 = .ok (.aaload, 1) := by decide +kernel
theorem dX7_drop_16 : decode cX7_drop 16 = .ok (.getfield 83, 3) := by decide +kernel
theorem dX7_drop_19 : decode cX7_drop 19 = .ok (.ifCond .ne 9, 3) := by decide +kernel
theorem dX7_drop_22 : decode cX7_drop 22 = .ok (.aload_n 0, 1) := by decide +kernel
theorem dX7_drop_23 : decode cX7_drop 23 = .ok (.iconst 1, 1) := by decide +kernel
theorem dX7_drop_24 : decode cX7_drop 24 = .ok (.invokevirtual 71, 3) := by decide +kernel
theorem dX7_drop_27 : decode cX7_drop 27 = .ok (.ireturn, 1) := by decide +kernel
theorem dX7_drop_28 : decode cX7_drop 28 = .ok (.aload_n 0, 1) := by decide +kernel
theorem dX7_drop_29 : decode cX7_drop 29 = .ok (.getfield 11, 3) := by decide +kernel
theorem dX7_drop_32 : decode cX7_drop 32 = .ok (.iload_n 1, 1) := by decide +kernel
theorem dX7_drop_33 : decode cX7_drop 33 = .ok (.aaload, 1) := by decide +kernel
theorem dX7_drop_34 : decode cX7_drop 34 = .ok (.iconst 0, 1) := by decide +kernel
theorem dX7_drop_35 : decode cX7_drop 35 = .ok (.putfield 83, 3) := by decide +kernel
theorem dX7_drop_38 : decode cX7_drop 38 = .ok (.aload_n 0, 1) := by decide +kernel
theorem dX7_drop_39 : decode cX7_drop 39 = .ok (.iconst 0, 1) := by decide +kernel
theorem dX7_drop_40 : decode cX7_drop 40 = .ok (.putfield 79, 3) := by decide +kernel
theorem dX7_drop_43 : decode cX7_drop 43 = .ok (.aload_n 0, 1) := by decide +kernel
theorem dX7_drop_44 : decode cX7_drop 44 = .ok (.getfield 11, 3) := by decide +kernel
theorem dX7_drop_47 : decode cX7_drop 47 = .ok (.iload_n 1, 1) := by decide +kernel
theorem dX7_drop_48 : decode cX7_drop 48 = .ok (.aaload, 1) := by decide +kernel
theorem dX7_drop_49 : decode cX7_drop 49 = .ok (.getfield 108, 3) := by decide +kernel
theorem dX7_drop_52 : decode cX7_drop 52 = .ok (.ireturn, 1) := by decide +kernel
theorem dX7_feed_0 : decode cX7_feed 0 = .ok (.iload_n 3, 1) := by decide +kernel
theorem dX7_feed_1 : decode cX7_feed 1 = .ok (.iconst 1, 1) := by decide +kernel
theorem dX7_feed_2 : decode cX7_feed 2 = .ok (.if_icmp .lt 9, 3) := by decide +kernel
theorem dX7_feed_5 : decode cX7_feed 5 = .ok (.iload_n 3, 1) := by decide +kernel
theorem dX7_feed_6 : decode cX7_feed 6 = .ok (.bipush 8, 2) := by decide +kernel
theorem dX7_feed_8 : decode cX7_feed 8 = .ok (.if_icmp .le 6, 3) := by decide +kernel
theorem dX7_feed_11 : decode cX7_feed 11 = .ok (.ldc 70, 2) := by decide +kernel
theorem dX7_feed_13 : decode cX7_feed 13 = .ok (.ireturn, 1) := by decide +kernel
theorem dX7_feed_14 : decode cX7_feed 14 = .ok (.iload_n 3, 1) := by decide +kernel
theorem dX7_feed_15 : decode cX7_feed 15 = .ok (.sipush 400, 3) := by decide +kernel
theorem dX7_feed_18 : decode cX7_feed 18 = .ok (.aload_n 0, 1) := by decide +kernel
theorem dX7_feed_19 : decode cX7_feed 19 = .ok (.getfield 18, 3) := by decide +kernel
theorem dX7_feed_22 : decode cX7_feed 22 = .ok (.getfield 111, 3) := by decide +kernel
theorem dX7_feed_25 : decode cX7_feed 25 = .ok (.isub, 1) := by decide +kernel
theorem dX7_feed_26 : decode cX7_feed 26 = .ok (.if_icmp .le 6, 3) := by decide +kernel
theorem dX7_feed_29 : decode cX7_feed 29 = .ok (.ldc 112, 2) := by decide +kernel
theorem dX7_feed_31 : decode cX7_feed 31 = .ok (.ireturn, 1) := by decide +kernel
theorem dX7_feed_32 : decode cX7_feed 32 = .ok (.aload_n 0, 1) := by decide +kernel
theorem dX7_feed_33 : decode cX7_feed 33 = .ok (.getfield 18, 3) := by decide +kernel
theorem dX7_feed_36 : decode cX7_feed 36 = .ok (.lload_n 1, 1) := by decide +kernel
theorem dX7_feed_37 : decode cX7_feed 37 = .ok (.iload_n 3, 1) := by decide +kernel
theorem dX7_feed_38 : decode cX7_feed 38 = .ok (.invokevirtual 113, 3) := by decide +kernel
theorem dX7_feed_41 : decode cX7_feed 41 = .ok (.aload_n 0, 1) := by decide +kernel
theorem dX7_feed_42 : decode cX7_feed 42 = .ok (.getfield 18, 3) := by decide +kernel
theorem dX7_feed_45 : decode cX7_feed 45 = .ok (.getfield 111, 3) := by decide +kernel
theorem dX7_feed_48 : decode cX7_feed 48 = .ok (.ireturn, 1) := by decide +kernel
theorem dX7_house_0 : decode cX7_house 0 = .ok (.aload_n 0, 1) := by decide +kernel
theorem dX7_house_1 : decode cX7_house 1 = .ok (.getfield 27, 3) := by decide +kernel
theorem dX7_house_4 : decode cX7_house 4 = .ok (.invokevirtual 117, 3) := by decide +kernel
theorem dX7_house_7 : decode cX7_house 7 = .ok (.istore_n 1, 1) := by decide +kernel
theorem dX7_house_8 : decode cX7_house 8 = .ok (.aload_n 0, 1) := by decide +kernel
theorem dX7_house_9 : decode cX7_house 9 = .ok (.getfield 18, 3) := by decide +kernel
theorem dX7_house_12 : decode cX7_house 12 = .ok (.getfield 121, 3) := by decide +kernel
theorem dX7_house_15 : decode cX7_house 15 = .ok (.istore_n 2, 1) := by decide +kernel
theorem dX7_house_16 : decode cX7_house 16 = .ok (.aload_n 0, 1) := by decide +kernel
theorem dX7_house_17 : decode cX7_house 17 = .ok (.getfield 18, 3) := by decide +kernel
theorem dX7_house_20 : decode cX7_house 20 = .ok (.iconst 0, 1) := by decide +kernel
theorem dX7_house_21 : decode cX7_house 21 = .ok (.putfield 111, 3) := by decide +kernel
theorem dX7_house_24 : decode cX7_house 24 = .ok (.iload_n 1, 1) := by decide +kernel
theorem dX7_house_25 : decode cX7_house 25 = .ok (.ifCond .ne 19, 3) := by decide +kernel
theorem dX7_house_28 : decode cX7_house 28 = .ok (.aload_n 0, 1) := by decide +kernel
theorem dX7_house_29 : decode cX7_house 29 = .ok (.aload_n 0, 1) := by decide +kernel
theorem dX7_house_30 : decode cX7_house 30 = .ok (.getfield 27, 3) := by decide +kernel
theorem dX7_house_33 : decode cX7_house 33 = .ok (.getfield 124, 3) := by decide +kernel
theorem dX7_house_36 : decode cX7_house 36 = .ok (.putfield 127, 3) := by decide +kernel
theorem dX7_house_39 : decode cX7_house 39 = .ok (.ldc 128, 2) := by decide +kernel
theorem dX7_house_41 : decode cX7_house 41 = .ok (.iload_n 2, 1) := by decide +kernel
theorem dX7_house_42 : decode cX7_house 42 = .ok (.isub, 1) := by decide +kernel
theorem dX7_house_43 : decode cX7_house 43 = .ok (.ireturn, 1) := by decide +kernel
theorem dX7_house_44 : decode cX7_house 44 = .ok (.aload_n 0, 1) := by decide +kernel
theorem dX7_house_45 : decode cX7_house 45 = .ok (.getfield 34, 3) := by decide +kernel
theorem dX7_house_48 : decode cX7_house 48 = .ok (.aload_n 0, 1) := by decide +kernel
theorem dX7_house_49 : decode cX7_house 49 = .ok (.getfield 27, 3) := by decide +kernel
theorem dX7_house_52 : decode cX7_house 52 = .ok (.getfield 129, 3) := by decide +kernel
theorem dX7_house_55 : decode cX7_house 55 = .ok (.invokevirtual 132, 3) := by decide +kernel
theorem dX7_house_58 : decode cX7_house 58 = .ok (.aload_n 0, 1) := by decide +kernel
theorem dX7_house_59 : decode cX7_house 59 = .ok (.getfield 45, 3) := by decide +kernel
theorem dX7_house_62 : decode cX7_house 62 = .ok (.invokevirtual 135, 3) := by decide +kernel
theorem dX7_house_65 : decode cX7_house 65 = .ok (.aload_n 0, 1) := by decide +kernel
theorem dX7_house_66 : decode cX7_house 66 = .ok (.getfield 34, 3) := by decide +kernel
theorem dX7_house_69 : decode cX7_house 69 = .ok (.getfield 138, 3) := by decide +kernel
theorem dX7_house_72 : decode cX7_house 72 = .ok (.ireturn, 1) := by decide +kernel
theorem dX7_fault_0 : decode cX7_fault 0 = .ok (.aload_n 0, 1) := by decide +kernel
theorem dX7_fault_1 : decode cX7_fault 1 = .ok (.getfield 127, 3) := by decide +kernel
theorem dX7_fault_4 : decode cX7_fault 4 = .ok (.ireturn, 1) := by decide +kernel
theorem dX7_bell_0 : decode cX7_bell 0 = .ok (.aload_n 0, 1) := by decide +kernel
theorem dX7_bell_1 : decode cX7_bell 1 = .ok (.getfield 34, 3) := by decide +kernel
theorem dX7_bell_4 : decode cX7_bell 4 = .ok (.getfield 138, 3) := by decide +kernel
theorem dX7_bell_7 : decode cX7_bell 7 = .ok (.ifCond .ne 6, 3) := by decide +kernel
theorem dX7_bell_10 : decode cX7_bell 10 = .ok (.ldc 141, 2) := by decide +kernel
theorem dX7_bell_12 : decode cX7_bell 12 = .ok (.ireturn, 1) := by decide +kernel
theorem dX7_bell_13 : decode cX7_bell 13 = .ok (.aload_n 0, 1) := by decide +kernel
theorem dX7_bell_14 : decode cX7_bell 14 = .ok (.getfield 34, 3) := by decide +kernel
theorem dX7_bell_17 : decode cX7_bell 17 = .ok (.getfield 142, 3) := by decide +kernel
theorem dX7_bell_20 : decode cX7_bell 20 = .ok (.sipush 9999, 3) := by decide +kernel
theorem dX7_bell_23 : decode cX7_bell 23 = .ok (.if_icmp .lt 6, 3) := by decide +kernel
theorem dX7_bell_26 : decode cX7_bell 26 = .ok (.ldc 112, 2) := by decide +kernel
theorem dX7_bell_28 : decode cX7_bell 28 = .ok (.ireturn, 1) := by decide +kernel
theorem dX7_bell_29 : decode cX7_bell 29 = .ok (.aload_n 0, 1) := by decide +kernel
theorem dX7_bell_30 : decode cX7_bell 30 = .ok (.getfield 45, 3) := by decide +kernel
theorem dX7_bell_33 : decode cX7_bell 33 = .ok (.aload_n 0, 1) := by decide +kernel
theorem dX7_bell_34 : decode cX7_bell 34 = .ok (.getfield 34, 3) := by decide +kernel
theorem dX7_bell_37 : decode cX7_bell 37 = .ok (.invokevirtual 145, 3) := by decide +kernel
theorem dX7_bell_40 : decode cX7_bell 40 = .ok (.aload_n 0, 1) := by decide +kernel
theorem dX7_bell_41 : decode cX7_bell 41 = .ok (.getfield 34, 3) := by decide +kernel
theorem dX7_bell_44 : decode cX7_bell 44 = .ok (.invokevirtual 148, 3) := by decide +kernel
theorem dX7_bell_47 : decode cX7_bell 47 = .ok (.ireturn, 1) := by decide +kernel
theorem dX7_bells_0 : decode cX7_bells 0 = .ok (.aload_n 0, 1) := by decide +kernel
theorem dX7_bells_1 : decode cX7_bells 1 = .ok (.getfield 34, 3) := by decide +kernel
theorem dX7_bells_4 : decode cX7_bells 4 = .ok (.getfield 138, 3) := by decide +kernel
theorem dX7_bells_7 : decode cX7_bells 7 = .ok (.ifCond .ne 6, 3) := by decide +kernel
theorem dX7_bells_10 : decode cX7_bells 10 = .ok (.ldc 141, 2) := by decide +kernel
theorem dX7_bells_12 : decode cX7_bells 12 = .ok (.ireturn, 1) := by decide +kernel
theorem dX7_bells_13 : decode cX7_bells 13 = .ok (.iload_n 1, 1) := by decide +kernel
theorem dX7_bells_14 : decode cX7_bells 14 = .ok (.invokestatic 66, 3) := by decide +kernel
theorem dX7_bells_17 : decode cX7_bells 17 = .ok (.ifCond .eq 14, 3) := by decide +kernel
theorem dX7_bells_20 : decode cX7_bells 20 = .ok (.iload_n 3, 1) := by decide +kernel
theorem dX7_bells_21 : decode cX7_bells 21 = .ok (.iconst 1, 1) := by decide +kernel
theorem dX7_bells_22 : decode cX7_bells 22 = .ok (.if_icmp .lt 9, 3) := by decide +kernel
theorem dX7_bells_25 : decode cX7_bells 25 = .ok (.iload_n 3, 1) := by decide +kernel
theorem dX7_bells_26 : decode cX7_bells 26 = .ok (.bipush 24, 2) := by decide +kernel
theorem dX7_bells_28 : decode cX7_bells 28 = .ok (.if_icmp .le 6, 3) := by decide +kernel
theorem dX7_bells_31 : decode cX7_bells 31 = .ok (.ldc 70, 2) := by decide +kernel
theorem dX7_bells_33 : decode cX7_bells 33 = .ok (.ireturn, 1) := by decide +kernel
theorem dX7_bells_34 : decode cX7_bells 34 = .ok (.aload_n 0, 1) := by decide +kernel
theorem dX7_bells_35 : decode cX7_bells 35 = .ok (.getfield 11, 3) := by decide +kernel
theorem dX7_bells_38 : decode cX7_bells 38 = .ok (.iload_n 1, 1) := by decide +kernel
theorem dX7_bells_39 : decode cX7_bells 39 = .ok (.aaload, 1) := by decide +kernel
theorem dX7_bells_40 : decode cX7_bells 40 = .ok (.astore 4, 2) := by decide +kernel
theorem dX7_bells_42 : decode cX7_bells 42 = .ok (.aload 4, 2) := by decide +kernel
theorem dX7_bells_44 : decode cX7_bells 44 = .ok (.getfield 83, 3) := by decide +kernel
theorem dX7_bells_47 : decode cX7_bells 47 = .ok (.ifCond .ne 9, 3) := by decide +kernel
theorem dX7_bells_50 : decode cX7_bells 50 = .ok (.aload_n 0, 1) := by decide +kernel
theorem dX7_bells_51 : decode cX7_bells 51 = .ok (.iconst 1, 1) := by decide +kernel
theorem dX7_bells_52 : decode cX7_bells 52 = .ok (.invokevirtual 71, 3) := by decide +kernel
theorem dX7_bells_55 : decode cX7_bells 55 = .ok (.ireturn, 1) := by decide +kernel
theorem dX7_bells_56 : decode cX7_bells 56 = .ok (.aload 4, 2) := by decide +kernel
theorem dX7_bells_58 : decode cX7_bells 58 = .ok (.iload_n 2, 1) := by decide +kernel
theorem dX7_bells_59 : decode cX7_bells 59 = .ok (.iload_n 3, 1) := by decide +kernel
theorem dX7_bells_60 : decode cX7_bells 60 = .ok (.invokevirtual 87, 3) := by decide +kernel
theorem dX7_bells_63 : decode cX7_bells 63 = .ok (.ifCond .ne 9, 3) := by decide +kernel
theorem dX7_bells_66 : decode cX7_bells 66 = .ok (.aload_n 0, 1) := by decide +kernel
theorem dX7_bells_67 : decode cX7_bells 67 = .ok (.iconst 2, 1) := by decide +kernel
theorem dX7_bells_68 : decode cX7_bells 68 = .ok (.invokevirtual 71, 3) := by decide +kernel
theorem dX7_bells_71 : decode cX7_bells 71 = .ok (.ireturn, 1) := by decide +kernel
theorem dX7_bells_72 : decode cX7_bells 72 = .ok (.aload 4, 2) := by decide +kernel
theorem dX7_bells_74 : decode cX7_bells 74 = .ok (.iload_n 2, 1) := by decide +kernel
theorem dX7_bells_75 : decode cX7_bells 75 = .ok (.iload_n 3, 1) := by decide +kernel
theorem dX7_bells_76 : decode cX7_bells 76 = .ok (.iconst 1, 1) := by decide +kernel
theorem dX7_bells_77 : decode cX7_bells 77 = .ok (.aload_n 0, 1) := by decide +kernel
theorem dX7_bells_78 : decode cX7_bells 78 = .ok (.getfield 34, 3) := by decide +kernel
theorem dX7_bells_81 : decode cX7_bells 81 = .ok (.getfield 152, 3) := by decide +kernel
theorem dX7_bells_84 : decode cX7_bells 84 = .ok (.ishl, 1) := by decide +kernel
theorem dX7_bells_85 : decode cX7_bells 85 = .ok (.invokevirtual 155, 3) := by decide +kernel
theorem dX7_bells_88 : decode cX7_bells 88 = .ok (.ifCond .ne 6, 3) := by decide +kernel
theorem dX7_bells_91 : decode cX7_bells 91 = .ok (.ldc 70, 2) := by decide +kernel
theorem dX7_bells_93 : decode cX7_bells 93 = .ok (.ireturn, 1) := by decide +kernel
theorem dX7_bells_94 : decode cX7_bells 94 = .ok (.aload_n 0, 1) := by decide +kernel
theorem dX7_bells_95 : decode cX7_bells 95 = .ok (.getfield 34, 3) := by decide +kernel
theorem dX7_bells_98 : decode cX7_bells 98 = .ok (.getfield 142, 3) := by decide +kernel
theorem dX7_bells_101 : decode cX7_bells 101 = .ok (.sipush 9999, 3) := by decide +kernel
theorem dX7_bells_104 : decode cX7_bells 104 = .ok (.iload_n 3, 1) := by decide +kernel
theorem dX7_bells_105 : decode cX7_bells 105 = .ok (.isub, 1) := by decide +kernel
theorem dX7_bells_106 : decode cX7_bells 106 = .ok (.if_icmp .gt 14, 3) := by decide +kernel
theorem dX7_bells_109 : decode cX7_bells 109 = .ok (.aload_n 0, 1) := by decide +kernel
theorem dX7_bells_110 : decode cX7_bells 110 = .ok (.aload 4, 2) := by decide +kernel
theorem dX7_bells_112 : decode cX7_bells 112 = .ok (.iload_n 2, 1) := by decide +kernel
theorem dX7_bells_113 : decode cX7_bells 113 = .ok (.iload_n 3, 1) := by decide +kernel
theorem dX7_bells_114 : decode cX7_bells 114 = .ok (.invokevirtual 159, 3) := by decide +kernel
theorem dX7_bells_117 : decode cX7_bells 117 = .ok (.ifCond .eq 6, 3) := by decide +kernel
theorem dX7_bells_120 : decode cX7_bells 120 = .ok (.ldc 112, 2) := by decide +kernel
theorem dX7_bells_122 : decode cX7_bells 122 = .ok (.ireturn, 1) := by decide +kernel
theorem dX7_bells_123 : decode cX7_bells 123 = .ok (.iconst 0, 1) := by decide +kernel
theorem dX7_bells_124 : decode cX7_bells 124 = .ok (.istore 5, 2) := by decide +kernel
theorem dX7_bells_126 : decode cX7_bells 126 = .ok (.iload 5, 2) := by decide +kernel
theorem dX7_bells_128 : decode cX7_bells 128 = .ok (.iload_n 3, 1) := by decide +kernel
theorem dX7_bells_129 : decode cX7_bells 129 = .ok (.if_icmp .ge 45, 3) := by decide +kernel
theorem dX7_bells_132 : decode cX7_bells 132 = .ok (.aload_n 0, 1) := by decide +kernel
theorem dX7_bells_133 : decode cX7_bells 133 = .ok (.getfield 45, 3) := by decide +kernel
theorem dX7_bells_136 : decode cX7_bells 136 = .ok (.aload_n 0, 1) := by decide +kernel
theorem dX7_bells_137 : decode cX7_bells 137 = .ok (.getfield 34, 3) := by decide +kernel
theorem dX7_bells_140 : decode cX7_bells 140 = .ok (.invokevirtual 145, 3) := by decide +kernel
theorem dX7_bells_143 : decode cX7_bells 143 = .ok (.aload_n 0, 1) := by decide +kernel
theorem dX7_bells_144 : decode cX7_bells 144 = .ok (.getfield 34, 3) := by decide +kernel
theorem dX7_bells_147 : decode cX7_bells 147 = .ok (.invokevirtual 148, 3) := by decide +kernel
theorem dX7_bells_150 : decode cX7_bells 150 = .ok (.pop, 1) := by decide +kernel
theorem dX7_bells_151 : decode cX7_bells 151 = .ok (.aload_n 0, 1) := by decide +kernel
theorem dX7_bells_152 : decode cX7_bells 152 = .ok (.getfield 34, 3) := by decide +kernel
theorem dX7_bells_155 : decode cX7_bells 155 = .ok (.aload 4, 2) := by decide +kernel
theorem dX7_bells_157 : decode cX7_bells 157 = .ok (.getfield 98, 3) := by decide +kernel
theorem dX7_bells_160 : decode cX7_bells 160 = .ok (.iload_n 2, 1) := by decide +kernel
theorem dX7_bells_161 : decode cX7_bells 161 = .ok (.iload 5, 2) := by decide +kernel
theorem dX7_bells_163 : decode cX7_bells 163 = .ok (.iadd, 1) := by decide +kernel
theorem dX7_bells_164 : decode cX7_bells 164 = .ok (.iaload, 1) := by decide +kernel
theorem dX7_bells_165 : decode cX7_bells 165 = .ok (.invokevirtual 163, 3) := by decide +kernel
theorem dX7_bells_168 : decode cX7_bells 168 = .ok (.iinc 5 1, 3) := by decide +kernel
theorem dX7_bells_171 : decode cX7_bells 171 = .ok (.goto (-45), 3) := by decide +kernel
theorem dX7_bells_174 : decode cX7_bells 174 = .ok (.aload_n 0, 1) := by decide +kernel
theorem dX7_bells_175 : decode cX7_bells 175 = .ok (.iconst 0, 1) := by decide +kernel
theorem dX7_bells_176 : decode cX7_bells 176 = .ok (.putfield 79, 3) := by decide +kernel
theorem dX7_bells_179 : decode cX7_bells 179 = .ok (.aload_n 0, 1) := by decide +kernel
theorem dX7_bells_180 : decode cX7_bells 180 = .ok (.getfield 34, 3) := by decide +kernel
theorem dX7_bells_183 : decode cX7_bells 183 = .ok (.invokevirtual 167, 3) := by decide +kernel
theorem dX7_bells_186 : decode cX7_bells 186 = .ok (.ireturn, 1) := by decide +kernel
theorem dX7_door_0 : decode cX7_door 0 = .ok (.aload_n 0, 1) := by decide +kernel
theorem dX7_door_1 : decode cX7_door 1 = .ok (.getfield 34, 3) := by decide +kernel
theorem dX7_door_4 : decode cX7_door 4 = .ok (.iload_n 1, 1) := by decide +kernel
theorem dX7_door_5 : decode cX7_door 5 = .ok (.invokevirtual 170, 3) := by decide +kernel
theorem dX7_door_8 : decode cX7_door 8 = .ok (.ifCond .eq 28, 3) := by decide +kernel
theorem dX7_door_11 : decode cX7_door 11 = .ok (.aload_n 0, 1) := by decide +kernel
theorem dX7_door_12 : decode cX7_door 12 = .ok (.getfield 34, 3) := by decide +kernel
theorem dX7_door_15 : decode cX7_door 15 = .ok (.iload_n 2, 1) := by decide +kernel
theorem dX7_door_16 : decode cX7_door 16 = .ok (.invokevirtual 170, 3) := by decide +kernel
theorem dX7_door_19 : decode cX7_door 19 = .ok (.ifCond .eq 17, 3) := by decide +kernel
theorem dX7_door_22 : decode cX7_door 22 = .ok (.iload_n 1, 1) := by decide +kernel
theorem dX7_door_23 : decode cX7_door 23 = .ok (.iload_n 2, 1) := by decide +kernel
theorem dX7_door_24 : decode cX7_door 24 = .ok (.if_icmp .eq 12, 3) := by decide +kernel
theorem dX7_door_27 : decode cX7_door 27 = .ok (.iload_n 3, 1) := by decide +kernel
theorem dX7_door_28 : decode cX7_door 28 = .ok (.ifCond .lt 8, 3) := by decide +kernel
theorem dX7_door_31 : decode cX7_door 31 = .ok (.iload_n 3, 1) := by decide +kernel
theorem dX7_door_32 : decode cX7_door 32 = .ok (.iconst 1, 1) := by decide +kernel
theorem dX7_door_33 : decode cX7_door 33 = .ok (.if_icmp .le 6, 3) := by decide +kernel
theorem dX7_door_36 : decode cX7_door 36 = .ok (.ldc 70, 2) := by decide +kernel
theorem dX7_door_38 : decode cX7_door 38 = .ok (.ireturn, 1) := by decide +kernel
theorem dX7_door_39 : decode cX7_door 39 = .ok (.aload_n 0, 1) := by decide +kernel
theorem dX7_door_40 : decode cX7_door 40 = .ok (.getfield 34, 3) := by decide +kernel
theorem dX7_door_43 : decode cX7_door 43 = .ok (.iload_n 1, 1) := by decide +kernel
theorem dX7_door_44 : decode cX7_door 44 = .ok (.iload_n 2, 1) := by decide +kernel
theorem dX7_door_45 : decode cX7_door 45 = .ok (.invokevirtual 173, 3) := by decide +kernel
theorem dX7_door_48 : decode cX7_door 48 = .ok (.istore 4, 2) := by decide +kernel
theorem dX7_door_50 : decode cX7_door 50 = .ok (.aload_n 0, 1) := by decide +kernel
theorem dX7_door_51 : decode cX7_door 51 = .ok (.getfield 45, 3) := by decide +kernel
theorem dX7_door_54 : decode cX7_door 54 = .ok (.aload_n 0, 1) := by decide +kernel
theorem dX7_door_55 : decode cX7_door 55 = .ok (.getfield 34, 3) := by decide +kernel
theorem dX7_door_58 : decode cX7_door 58 = .ok (.invokevirtual 145, 3) := by decide +kernel
theorem dX7_door_61 : decode cX7_door 61 = .ok (.aload_n 0, 1) := by decide +kernel
theorem dX7_door_62 : decode cX7_door 62 = .ok (.getfield 34, 3) := by decide +kernel
theorem dX7_door_65 : decode cX7_door 65 = .ok (.iload_n 1, 1) := by decide +kernel
theorem dX7_door_66 : decode cX7_door 66 = .ok (.iload_n 2, 1) := by decide +kernel
theorem dX7_door_67 : decode cX7_door 67 = .ok (.iload_n 3, 1) := by decide +kernel
theorem dX7_door_68 : decode cX7_door 68 = .ok (.invokevirtual 176, 3) := by decide +kernel
theorem dX7_door_71 : decode cX7_door 71 = .ok (.iload 4, 2) := by decide +kernel
theorem dX7_door_73 : decode cX7_door 73 = .ok (.ireturn, 1) := by decide +kernel
theorem dX7_heads_0 : decode cX7_heads 0 = .ok (.aload_n 0, 1) := by decide +kernel
theorem dX7_heads_1 : decode cX7_heads 1 = .ok (.getfield 34, 3) := by decide +kernel
theorem dX7_heads_4 : decode cX7_heads 4 = .ok (.iload_n 1, 1) := by decide +kernel
theorem dX7_heads_5 : decode cX7_heads 5 = .ok (.invokevirtual 180, 3) := by decide +kernel
theorem dX7_heads_8 : decode cX7_heads 8 = .ok (.ifCond .eq 14, 3) := by decide +kernel
theorem dX7_heads_11 : decode cX7_heads 11 = .ok (.iload_n 2, 1) := by decide +kernel
theorem dX7_heads_12 : decode cX7_heads 12 = .ok (.iconst 1, 1) := by decide +kernel
theorem dX7_heads_13 : decode cX7_heads 13 = .ok (.if_icmp .lt 9, 3) := by decide +kernel
theorem dX7_heads_16 : decode cX7_heads 16 = .ok (.iload_n 2, 1) := by decide +kernel
theorem dX7_heads_17 : decode cX7_heads 17 = .ok (.bipush 99, 2) := by decide +kernel
theorem dX7_heads_19 : decode cX7_heads 19 = .ok (.if_icmp .le 6, 3) := by decide +kernel
theorem dX7_heads_22 : decode cX7_heads 22 = .ok (.ldc 70, 2) := by decide +kernel
theorem dX7_heads_24 : decode cX7_heads 24 = .ok (.ireturn, 1) := by decide +kernel
theorem dX7_heads_25 : decode cX7_heads 25 = .ok (.aload_n 0, 1) := by decide +kernel
theorem dX7_heads_26 : decode cX7_heads 26 = .ok (.getfield 34, 3) := by decide +kernel
theorem dX7_heads_29 : decode cX7_heads 29 = .ok (.getfield 183, 3) := by decide +kernel
theorem dX7_heads_32 : decode cX7_heads 32 = .ok (.iload_n 1, 1) := by decide +kernel
theorem dX7_heads_33 : decode cX7_heads 33 = .ok (.iaload, 1) := by decide +kernel
theorem dX7_heads_34 : decode cX7_heads 34 = .ok (.istore_n 3, 1) := by decide +kernel
theorem dX7_heads_35 : decode cX7_heads 35 = .ok (.aload_n 0, 1) := by decide +kernel
theorem dX7_heads_36 : decode cX7_heads 36 = .ok (.getfield 45, 3) := by decide +kernel
theorem dX7_heads_39 : decode cX7_heads 39 = .ok (.aload_n 0, 1) := by decide +kernel
theorem dX7_heads_40 : decode cX7_heads 40 = .ok (.getfield 34, 3) := by decide +kernel
theorem dX7_heads_43 : decode cX7_heads 43 = .ok (.invokevirtual 145, 3) := by decide +kernel
theorem dX7_heads_46 : decode cX7_heads 46 = .ok (.aload_n 0, 1) := by decide +kernel
theorem dX7_heads_47 : decode cX7_heads 47 = .ok (.getfield 34, 3) := by decide +kernel
theorem dX7_heads_50 : decode cX7_heads 50 = .ok (.getfield 183, 3) := by decide +kernel
theorem dX7_heads_53 : decode cX7_heads 53 = .ok (.iload_n 1, 1) := by decide +kernel
theorem dX7_heads_54 : decode cX7_heads 54 = .ok (.iload_n 2, 1) := by decide +kernel
theorem dX7_heads_55 : decode cX7_heads 55 = .ok (.iastore, 1) := by decide +kernel
theorem dX7_heads_56 : decode cX7_heads 56 = .ok (.iload_n 3, 1) := by decide +kernel
theorem dX7_heads_57 : decode cX7_heads 57 = .ok (.ireturn, 1) := by decide +kernel
theorem dX7_undo_0 : decode cX7_undo 0 = .ok (.aload_n 0, 1) := by decide +kernel
theorem dX7_undo_1 : decode cX7_undo 1 = .ok (.getfield 45, 3) := by decide +kernel
theorem dX7_undo_4 : decode cX7_undo 4 = .ok (.getfield 186, 3) := by decide +kernel
theorem dX7_undo_7 : decode cX7_undo 7 = .ok (.ifCond .ne 6, 3) := by decide +kernel
theorem dX7_undo_10 : decode cX7_undo 10 = .ok (.ldc 141, 2) := by decide +kernel
theorem dX7_undo_12 : decode cX7_undo 12 = .ok (.ireturn, 1) := by decide +kernel
theorem dX7_undo_13 : decode cX7_undo 13 = .ok (.aload_n 0, 1) := by decide +kernel
theorem dX7_undo_14 : decode cX7_undo 14 = .ok (.getfield 45, 3) := by decide +kernel
theorem dX7_undo_17 : decode cX7_undo 17 = .ok (.aload_n 0, 1) := by decide +kernel
theorem dX7_undo_18 : decode cX7_undo 18 = .ok (.getfield 34, 3) := by decide +kernel
theorem dX7_undo_21 : decode cX7_undo 21 = .ok (.invokevirtual 189, 3) := by decide +kernel
theorem dX7_undo_24 : decode cX7_undo 24 = .ok (.aload_n 0, 1) := by decide +kernel
theorem dX7_undo_25 : decode cX7_undo 25 = .ok (.getfield 45, 3) := by decide +kernel
theorem dX7_undo_28 : decode cX7_undo 28 = .ok (.getfield 186, 3) := by decide +kernel
theorem dX7_undo_31 : decode cX7_undo 31 = .ok (.ireturn, 1) := by decide +kernel
theorem dX7_crowd_0 : decode cX7_crowd 0 = .ok (.aload_n 0, 1) := by decide +kernel
theorem dX7_crowd_1 : decode cX7_crowd 1 = .ok (.getfield 34, 3) := by decide +kernel
theorem dX7_crowd_4 : decode cX7_crowd 4 = .ok (.iload_n 1, 1) := by decide +kernel
theorem dX7_crowd_5 : decode cX7_crowd 5 = .ok (.invokevirtual 180, 3) := by decide +kernel
theorem dX7_crowd_8 : decode cX7_crowd 8 = .ok (.ifCond .eq 12, 3) := by decide +kernel
theorem dX7_crowd_11 : decode cX7_crowd 11 = .ok (.iload_n 2, 1) := by decide +kernel
theorem dX7_crowd_12 : decode cX7_crowd 12 = .ok (.ifCond .lt 8, 3) := by decide +kernel
theorem dX7_crowd_15 : decode cX7_crowd 15 = .ok (.iload_n 2, 1) := by decide +kernel
theorem dX7_crowd_16 : decode cX7_crowd 16 = .ok (.iconst 1, 1) := by decide +kernel
theorem dX7_crowd_17 : decode cX7_crowd 17 = .ok (.if_icmp .le 6, 3) := by decide +kernel
theorem dX7_crowd_20 : decode cX7_crowd 20 = .ok (.ldc 70, 2) := by decide +kernel
theorem dX7_crowd_22 : decode cX7_crowd 22 = .ok (.ireturn, 1) := by decide +kernel
theorem dX7_crowd_23 : decode cX7_crowd 23 = .ok (.iload_n 2, 1) := by decide +kernel
theorem dX7_crowd_24 : decode cX7_crowd 24 = .ok (.ifCond .ne 15, 3) := by decide +kernel
theorem dX7_crowd_27 : decode cX7_crowd 27 = .ok (.aload_n 0, 1) := by decide +kernel
theorem dX7_crowd_28 : decode cX7_crowd 28 = .ok (.getfield 34, 3) := by decide +kernel
theorem dX7_crowd_31 : decode cX7_crowd 31 = .ok (.getfield 192, 3) := by decide +kernel
theorem dX7_crowd_34 : decode cX7_crowd 34 = .ok (.iload_n 1, 1) := by decide +kernel
theorem dX7_crowd_35 : decode cX7_crowd 35 = .ok (.iaload, 1) := by decide +kernel
theorem dX7_crowd_36 : decode cX7_crowd 36 = .ok (.goto 12, 3) := by decide +kernel
theorem dX7_crowd_39 : decode cX7_crowd 39 = .ok (.aload_n 0, 1) := by decide +kernel
theorem dX7_crowd_40 : decode cX7_crowd 40 = .ok (.getfield 34, 3) := by decide +kernel
theorem dX7_crowd_43 : decode cX7_crowd 43 = .ok (.getfield 183, 3) := by decide +kernel
theorem dX7_crowd_46 : decode cX7_crowd 46 = .ok (.iload_n 1, 1) := by decide +kernel
theorem dX7_crowd_47 : decode cX7_crowd 47 = .ok (.iaload, 1) := by decide +kernel
theorem dX7_crowd_48 : decode cX7_crowd 48 = .ok (.ireturn, 1) := by decide +kernel
theorem dX7_room_0 : decode cX7_room 0 = .ok (.aload_n 0, 1) := by decide +kernel
theorem dX7_room_1 : decode cX7_room 1 = .ok (.getfield 34, 3) := by decide +kernel
theorem dX7_room_4 : decode cX7_room 4 = .ok (.iload_n 1, 1) := by decide +kernel
theorem dX7_room_5 : decode cX7_room 5 = .ok (.invokevirtual 170, 3) := by decide +kernel
theorem dX7_room_8 : decode cX7_room 8 = .ok (.ifCond .eq 12, 3) := by decide +kernel
theorem dX7_room_11 : decode cX7_room 11 = .ok (.iload_n 2, 1) := by decide +kernel
theorem dX7_room_12 : decode cX7_room 12 = .ok (.ifCond .lt 8, 3) := by decide +kernel
theorem dX7_room_15 : decode cX7_room 15 = .ok (.iload_n 2, 1) := by decide +kernel
theorem dX7_room_16 : decode cX7_room 16 = .ok (.iconst 2, 1) := by decide +kernel
theorem dX7_room_17 : decode cX7_room 17 = .ok (.if_icmp .le 6, 3) := by decide +kernel
theorem dX7_room_20 : decode cX7_room 20 = .ok (.ldc 70, 2) := by decide +kernel
theorem dX7_room_22 : decode cX7_room 22 = .ok (.ireturn, 1) := by decide +kernel
theorem dX7_room_23 : decode cX7_room 23 = .ok (.iload_n 2, 1) := by decide +kernel
theorem dX7_room_24 : decode cX7_room 24 = .ok (.ifCond .ne 13, 3) := by decide +kernel
theorem dX7_room_27 : decode cX7_room 27 = .ok (.aload_n 0, 1) := by decide +kernel
theorem dX7_room_28 : decode cX7_room 28 = .ok (.getfield 34, 3) := by decide +kernel
theorem dX7_room_31 : decode cX7_room 31 = .ok (.getfield 195, 3) := by decide +kernel
theorem dX7_room_34 : decode cX7_room 34 = .ok (.iload_n 1, 1) := by decide +kernel
theorem dX7_room_35 : decode cX7_room 35 = .ok (.iaload, 1) := by decide +kernel
theorem dX7_room_36 : decode cX7_room 36 = .ok (.ireturn, 1) := by decide +kernel
theorem dX7_room_37 : decode cX7_room 37 = .ok (.iload_n 2, 1) := by decide +kernel
theorem dX7_room_38 : decode cX7_room 38 = .ok (.iconst 1, 1) := by decide +kernel
theorem dX7_room_39 : decode cX7_room 39 = .ok (.if_icmp .ne 14, 3) := by decide +kernel
theorem dX7_room_42 : decode cX7_room 42 = .ok (.aload_n 0, 1) := by decide +kernel
theorem dX7_room_43 : decode cX7_room 43 = .ok (.getfield 34, 3) := by decide +kernel
theorem dX7_room_46 : decode cX7_room 46 = .ok (.iload_n 1, 1) := by decide +kernel
theorem dX7_room_47 : decode cX7_room 47 = .ok (.invokevirtual 198, 3) := by decide +kernel
theorem dX7_room_50 : decode cX7_room 50 = .ok (.goto 12, 3) := by decide +kernel
theorem dX7_room_53 : decode cX7_room 53 = .ok (.aload_n 0, 1) := by decide +kernel
theorem dX7_room_54 : decode cX7_room 54 = .ok (.getfield 34, 3) := by decide +kernel
theorem dX7_room_57 : decode cX7_room 57 = .ok (.getfield 201, 3) := by decide +kernel
theorem dX7_room_60 : decode cX7_room 60 = .ok (.iload_n 1, 1) := by decide +kernel
theorem dX7_room_61 : decode cX7_room 61 = .ok (.iaload, 1) := by decide +kernel
theorem dX7_room_62 : decode cX7_room 62 = .ok (.ireturn, 1) := by decide +kernel
theorem dX7_ahead_0 : decode cX7_ahead 0 = .ok (.aload_n 0, 1) := by decide +kernel
theorem dX7_ahead_1 : decode cX7_ahead 1 = .ok (.getfield 34, 3) := by decide +kernel
theorem dX7_ahead_4 : decode cX7_ahead 4 = .ok (.iload_n 1, 1) := by decide +kernel
theorem dX7_ahead_5 : decode cX7_ahead 5 = .ok (.invokevirtual 180, 3) := by decide +kernel
theorem dX7_ahead_8 : decode cX7_ahead 8 = .ok (.ifCond .eq 13, 3) := by decide +kernel
theorem dX7_ahead_11 : decode cX7_ahead 11 = .ok (.iload_n 2, 1) := by decide +kernel
theorem dX7_ahead_12 : decode cX7_ahead 12 = .ok (.ifCond .lt 9, 3) := by decide +kernel
theorem dX7_ahead_15 : decode cX7_ahead 15 = .ok (.iload_n 2, 1) := by decide +kernel
theorem dX7_ahead_16 : decode cX7_ahead 16 = .ok (.bipush 60, 2) := by decide +kernel
theorem dX7_ahead_18 : decode cX7_ahead 18 = .ok (.if_icmp .le 6, 3) := by decide +kernel
theorem dX7_ahead_21 : decode cX7_ahead 21 = .ok (.ldc 70, 2) := by decide +kernel
theorem dX7_ahead_23 : decode cX7_ahead 23 = .ok (.ireturn, 1) := by decide +kernel
theorem dX7_ahead_24 : decode cX7_ahead 24 = .ok (.aload_n 0, 1) := by decide +kernel
theorem dX7_ahead_25 : decode cX7_ahead 25 = .ok (.getfield 54, 3) := by decide +kernel
theorem dX7_ahead_28 : decode cX7_ahead 28 = .ok (.iload_n 1, 1) := by decide +kernel
theorem dX7_ahead_29 : decode cX7_ahead 29 = .ok (.iload_n 2, 1) := by decide +kernel
theorem dX7_ahead_30 : decode cX7_ahead 30 = .ok (.invokevirtual 204, 3) := by decide +kernel
theorem dX7_ahead_33 : decode cX7_ahead 33 = .ok (.ireturn, 1) := by decide +kernel
theorem dX7_roomAhead_0 : decode cX7_roomAhead 0 = .ok (.aload_n 0, 1) := by decide +kernel
theorem dX7_roomAhead_1 : decode cX7_roomAhead 1 = .ok (.getfield 34, 3) := by decide +kernel
theorem dX7_roomAhead_4 : decode cX7_roomAhead 4 = .ok (.iload_n 1, 1) := by decide +kernel
theorem dX7_roomAhead_5 : decode cX7_roomAhead 5 = .ok (.invokevirtual 170, 3) := by decide +kernel
theorem dX7_roomAhead_8 : decode cX7_roomAhead 8 = .ok (.ifCond .eq 22, 3) := by decide +kernel
theorem dX7_roomAhead_11 : decode cX7_roomAhead 11 = .ok (.iload_n 2, 1) := by decide +kernel
theorem dX7_roomAhead_12 : decode cX7_roomAhead 12 = .ok (.ifCond .lt 18, 3) := by decide +kernel
theorem dX7_roomAhead_15 : decode cX7_roomAhead 15 = .ok (.iload_n 2, 1) := by decide +kernel
theorem dX7_roomAhead_16 : decode cX7_roomAhead 16 = .ok (.bipush 60, 2) := by decide +kernel
theorem dX7_roomAhead_18 : decode cX7_roomAhead 18 = .ok (.if_icmp .gt 12, 3) := by decide +kernel
theorem dX7_roomAhead_21 : decode cX7_roomAhead 21 = .ok (.iload_n 3, 1) := by decide +kernel
theorem dX7_roomAhead_22 : decode cX7_roomAhead 22 = .ok (.ifCond .lt 8, 3) := by decide +kernel
theorem dX7_roomAhead_25 : decode cX7_roomAhead 25 = .ok (.iload_n 3, 1) := by decide +kernel
theorem dX7_roomAhead_26 : decode cX7_roomAhead 26 = .ok (.iconst 1, 1) := by decide +kernel
theorem dX7_roomAhead_27 : decode cX7_roomAhead 27 = .ok (.if_icmp .le 6, 3) := by decide +kernel
theorem dX7_roomAhead_30 : decode cX7_roomAhead 30 = .ok (.ldc 70, 2) := by decide +kernel
theorem dX7_roomAhead_32 : decode cX7_roomAhead 32 = .ok (.ireturn, 1) := by decide +kernel
theorem dX7_roomAhead_33 : decode cX7_roomAhead 33 = .ok (.iload_n 3, 1) := by decide +kernel
theorem dX7_roomAhead_34 : decode cX7_roomAhead 34 = .ok (.ifCond .ne 15, 3) := by decide +kernel
theorem dX7_roomAhead_37 : decode cX7_roomAhead 37 = .ok (.aload_n 0, 1) := by decide +kernel
theorem dX7_roomAhead_38 : decode cX7_roomAhead 38 = .ok (.getfield 54, 3) := by decide +kernel
theorem dX7_roomAhead_41 : decode cX7_roomAhead 41 = .ok (.iload_n 1, 1) := by decide +kernel
theorem dX7_roomAhead_42 : decode cX7_roomAhead 42 = .ok (.iload_n 2, 1) := by decide +kernel
theorem dX7_roomAhead_43 : decode cX7_roomAhead 43 = .ok (.invokevirtual 207, 3) := by decide +kernel
theorem dX7_roomAhead_46 : decode cX7_roomAhead 46 = .ok (.goto 12, 3) := by decide +kernel
theorem dX7_roomAhead_49 : decode cX7_roomAhead 49 = .ok (.aload_n 0, 1) := by decide +kernel
theorem dX7_roomAhead_50 : decode cX7_roomAhead 50 = .ok (.getfield 54, 3) := by decide +kernel
theorem dX7_roomAhead_53 : decode cX7_roomAhead 53 = .ok (.iload_n 1, 1) := by decide +kernel
theorem dX7_roomAhead_54 : decode cX7_roomAhead 54 = .ok (.iload_n 2, 1) := by decide +kernel
theorem dX7_roomAhead_55 : decode cX7_roomAhead 55 = .ok (.invokevirtual 210, 3) := by decide +kernel
theorem dX7_roomAhead_58 : decode cX7_roomAhead 58 = .ok (.ireturn, 1) := by decide +kernel
theorem dX7_rest_0 : decode cX7_rest 0 = .ok (.aload_n 0, 1) := by decide +kernel
theorem dX7_rest_1 : decode cX7_rest 1 = .ok (.getfield 34, 3) := by decide +kernel
theorem dX7_rest_4 : decode cX7_rest 4 = .ok (.getfield 138, 3) := by decide +kernel
theorem dX7_rest_7 : decode cX7_rest 7 = .ok (.ifCond .ne 6, 3) := by decide +kernel
theorem dX7_rest_10 : decode cX7_rest 10 = .ok (.ldc 141, 2) := by decide +kernel
theorem dX7_rest_12 : decode cX7_rest 12 = .ok (.ireturn, 1) := by decide +kernel
theorem dX7_rest_13 : decode cX7_rest 13 = .ok (.iload_n 1, 1) := by decide +kernel
theorem dX7_rest_14 : decode cX7_rest 14 = .ok (.ifCond .lt 8, 3) := by decide +kernel
theorem dX7_rest_17 : decode cX7_rest 17 = .ok (.iload_n 1, 1) := by decide +kernel
theorem dX7_rest_18 : decode cX7_rest 18 = .ok (.iconst 1, 1) := by decide +kernel
theorem dX7_rest_19 : decode cX7_rest 19 = .ok (.if_icmp .le 6, 3) := by decide +kernel
theorem dX7_rest_22 : decode cX7_rest 22 = .ok (.ldc 70, 2) := by decide +kernel
theorem dX7_rest_24 : decode cX7_rest 24 = .ok (.ireturn, 1) := by decide +kernel
theorem dX7_rest_25 : decode cX7_rest 25 = .ok (.iload_n 1, 1) := by decide +kernel
theorem dX7_rest_26 : decode cX7_rest 26 = .ok (.ifCond .ne 13, 3) := by decide +kernel
theorem dX7_rest_29 : decode cX7_rest 29 = .ok (.aload_n 0, 1) := by decide +kernel
theorem dX7_rest_30 : decode cX7_rest 30 = .ok (.getfield 54, 3) := by decide +kernel
theorem dX7_rest_33 : decode cX7_rest 33 = .ok (.invokevirtual 213, 3) := by decide +kernel
theorem dX7_rest_36 : decode cX7_rest 36 = .ok (.goto 10, 3) := by decide +kernel
theorem dX7_rest_39 : decode cX7_rest 39 = .ok (.aload_n 0, 1) := by decide +kernel
theorem dX7_rest_40 : decode cX7_rest 40 = .ok (.getfield 54, 3) := by decide +kernel
theorem dX7_rest_43 : decode cX7_rest 43 = .ok (.invokevirtual 216, 3) := by decide +kernel
theorem dX7_rest_46 : decode cX7_rest 46 = .ok (.ireturn, 1) := by decide +kernel
theorem dX7_hired_0 : decode cX7_hired 0 = .ok (.aload_n 0, 1) := by decide +kernel
theorem dX7_hired_1 : decode cX7_hired 1 = .ok (.iload_n 1, 1) := by decide +kernel
theorem dX7_hired_2 : decode cX7_hired 2 = .ok (.iload_n 2, 1) := by decide +kernel
theorem dX7_hired_3 : decode cX7_hired 3 = .ok (.iload_n 3, 1) := by decide +kernel
theorem dX7_hired_4 : decode cX7_hired 4 = .ok (.iconst 0, 1) := by decide +kernel
theorem dX7_hired_5 : decode cX7_hired 5 = .ok (.invokevirtual 219, 3) := by decide +kernel
theorem dX7_hired_8 : decode cX7_hired 8 = .ok (.ireturn, 1) := by decide +kernel
theorem dX7_empty_0 : decode cX7_empty 0 = .ok (.aload_n 0, 1) := by decide +kernel
theorem dX7_empty_1 : decode cX7_empty 1 = .ok (.iload_n 1, 1) := by decide +kernel
theorem dX7_empty_2 : decode cX7_empty 2 = .ok (.iload_n 2, 1) := by decide +kernel
theorem dX7_empty_3 : decode cX7_empty 3 = .ok (.iload_n 3, 1) := by decide +kernel
theorem dX7_empty_4 : decode cX7_empty 4 = .ok (.iconst 1, 1) := by decide +kernel
theorem dX7_empty_5 : decode cX7_empty 5 = .ok (.invokevirtual 219, 3) := by decide +kernel
theorem dX7_empty_8 : decode cX7_empty 8 = .ok (.ireturn, 1) := by decide +kernel
theorem dX7_apart_0 : decode cX7_apart 0 = .ok (.aload_n 0, 1) := by decide +kernel
theorem dX7_apart_1 : decode cX7_apart 1 = .ok (.getfield 34, 3) := by decide +kernel
theorem dX7_apart_4 : decode cX7_apart 4 = .ok (.iload_n 1, 1) := by decide +kernel
theorem dX7_apart_5 : decode cX7_apart 5 = .ok (.invokevirtual 180, 3) := by decide +kernel
theorem dX7_apart_8 : decode cX7_apart 8 = .ok (.ifCond .eq 30, 3) := by decide +kernel
theorem dX7_apart_11 : decode cX7_apart 11 = .ok (.aload_n 0, 1) := by decide +kernel
theorem dX7_apart_12 : decode cX7_apart 12 = .ok (.getfield 34, 3) := by decide +kernel
theorem dX7_apart_15 : decode cX7_apart 15 = .ok (.iload_n 2, 1) := by decide +kernel
theorem dX7_apart_16 : decode cX7_apart 16 = .ok (.invokevirtual 180, 3) := by decide +kernel
theorem dX7_apart_19 : decode cX7_apart 19 = .ok (.ifCond .eq 19, 3) := by decide +kernel
theorem dX7_apart_22 : decode cX7_apart 22 = .ok (.iload_n 1, 1) := by decide +kernel
theorem dX7_apart_23 : decode cX7_apart 23 = .ok (.iload_n 2, 1) := by decide +kernel
theorem dX7_apart_24 : decode cX7_apart 24 = .ok (.if_icmp .eq 14, 3) := by decide +kernel
theorem dX7_apart_27 : decode cX7_apart 27 = .ok (.iload_n 3, 1) := by decide +kernel
theorem dX7_apart_28 : decode cX7_apart 28 = .ok (.iconst 1, 1) := by decide +kernel
theorem dX7_apart_29 : decode cX7_apart 29 = .ok (.if_icmp .lt 9, 3) := by decide +kernel
theorem dX7_apart_32 : decode cX7_apart 32 = .ok (.iload_n 3, 1) := by decide +kernel
theorem dX7_apart_33 : decode cX7_apart 33 = .ok (.bipush 60, 2) := by decide +kernel
theorem dX7_apart_35 : decode cX7_apart 35 = .ok (.if_icmp .le 6, 3) := by decide +kernel
theorem dX7_apart_38 : decode cX7_apart 38 = .ok (.ldc 70, 2) := by decide +kernel
theorem dX7_apart_40 : decode cX7_apart 40 = .ok (.ireturn, 1) := by decide +kernel
theorem dX7_apart_41 : decode cX7_apart 41 = .ok (.aload_n 0, 1) := by decide +kernel
theorem dX7_apart_42 : decode cX7_apart 42 = .ok (.getfield 54, 3) := by decide +kernel
theorem dX7_apart_45 : decode cX7_apart 45 = .ok (.iload_n 1, 1) := by decide +kernel
theorem dX7_apart_46 : decode cX7_apart 46 = .ok (.iload_n 2, 1) := by decide +kernel
theorem dX7_apart_47 : decode cX7_apart 47 = .ok (.iload_n 3, 1) := by decide +kernel
theorem dX7_apart_48 : decode cX7_apart 48 = .ok (.invokevirtual 223, 3) := by decide +kernel
theorem dX7_apart_51 : decode cX7_apart 51 = .ok (.ireturn, 1) := by decide +kernel
theorem dX7_began_0 : decode cX7_began 0 = .ok (.aload_n 0, 1) := by decide +kernel
theorem dX7_began_1 : decode cX7_began 1 = .ok (.getfield 34, 3) := by decide +kernel
theorem dX7_began_4 : decode cX7_began 4 = .ok (.getfield 138, 3) := by decide +kernel
theorem dX7_began_7 : decode cX7_began 7 = .ok (.ifCond .ne 6, 3) := by decide +kernel
theorem dX7_began_10 : decode cX7_began 10 = .ok (.ldc 141, 2) := by decide +kernel
theorem dX7_began_12 : decode cX7_began 12 = .ok (.ireturn, 1) := by decide +kernel
theorem dX7_began_13 : decode cX7_began 13 = .ok (.iload_n 1, 1) := by decide +kernel
theorem dX7_began_14 : decode cX7_began 14 = .ok (.iconst (-1), 1) := by decide +kernel
theorem dX7_began_15 : decode cX7_began 15 = .ok (.if_icmp .eq 14, 3) := by decide +kernel
theorem dX7_began_18 : decode cX7_began 18 = .ok (.aload_n 0, 1) := by decide +kernel
theorem dX7_began_19 : decode cX7_began 19 = .ok (.getfield 34, 3) := by decide +kernel
theorem dX7_began_22 : decode cX7_began 22 = .ok (.iload_n 1, 1) := by decide +kernel
theorem dX7_began_23 : decode cX7_began 23 = .ok (.invokevirtual 180, 3) := by decide +kernel
theorem dX7_began_26 : decode cX7_began 26 = .ok (.ifCond .eq 13, 3) := by decide +kernel
theorem dX7_began_29 : decode cX7_began 29 = .ok (.iload_n 2, 1) := by decide +kernel
theorem dX7_began_30 : decode cX7_began 30 = .ok (.ifCond .lt 9, 3) := by decide +kernel
theorem dX7_began_33 : decode cX7_began 33 = .ok (.iload_n 2, 1) := by decide +kernel
theorem dX7_began_34 : decode cX7_began 34 = .ok (.bipush 9, 2) := by decide +kernel
theorem dX7_began_36 : decode cX7_began 36 = .ok (.if_icmp .le 6, 3) := by decide +kernel
theorem dX7_began_39 : decode cX7_began 39 = .ok (.ldc 70, 2) := by decide +kernel
theorem dX7_began_41 : decode cX7_began 41 = .ok (.ireturn, 1) := by decide +kernel
theorem dX7_began_42 : decode cX7_began 42 = .ok (.aload_n 0, 1) := by decide +kernel
