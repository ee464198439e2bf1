/-! decode rows: X7 -/
theorem dX7_began_43 : decode cX7_began 43 = .ok (.getfield 54, 3) := by decide +kernel
theorem dX7_began_46 : decode cX7_began 46 = .ok (.iload_n 2, 1) := by decide +kernel
theorem dX7_began_47 : decode cX7_began 47 = .ok (.invokevirtual 227, 3) := by decide +kernel
theorem dX7_began_50 : decode cX7_began 50 = .ok (.iload_n 1, 1) := by decide +kernel
theorem dX7_began_51 : decode cX7_began 51 = .ok (.iconst (-1), 1) := by decide +kernel
theorem dX7_began_52 : decode cX7_began 52 = .ok (.if_icmp .ne 11, 3) := by decide +kernel
theorem dX7_began_55 : decode cX7_began 55 = .ok (.aload_n 0, 1) := by decide +kernel
theorem dX7_began_56 : decode cX7_began 56 = .ok (.getfield 54, 3) := by decide +kernel
theorem dX7_began_59 : decode cX7_began 59 = .ok (.getfield 230, 3) := by decide +kernel
theorem dX7_began_62 : decode cX7_began 62 = .ok (.ireturn, 1) := by decide +kernel
theorem dX7_began_63 : decode cX7_began 63 = .ok (.aload_n 0, 1) := by decide +kernel
theorem dX7_began_64 : decode cX7_began 64 = .ok (.getfield 54, 3) := by decide +kernel
theorem dX7_began_67 : decode cX7_began 67 = .ok (.getfield 230, 3) := by decide +kernel
theorem dX7_began_70 : decode cX7_began 70 = .ok (.ifCond .ne 8, 3) := by decide +kernel
theorem dX7_began_73 : decode cX7_began 73 = .ok (.ldc 233, 2) := by decide +kernel
theorem dX7_began_75 : decode cX7_began 75 = .ok (.goto 12, 3) := by decide +kernel
theorem dX7_began_78 : decode cX7_began 78 = .ok (.aload_n 0, 1) := by decide +kernel
theorem dX7_began_79 : decode cX7_began 79 = .ok (.getfield 54, 3) := by decide +kernel
theorem dX7_began_82 : decode cX7_began 82 = .ok (.getfield 234, 3) := by decide +kernel
theorem dX7_began_85 : decode cX7_began 85 = .ok (.iload_n 1, 1) := by decide +kernel
theorem dX7_began_86 : decode cX7_began 86 = .ok (.iaload, 1) := by decide +kernel
theorem dX7_began_87 : decode cX7_began 87 = .ok (.ireturn, 1) := by decide +kernel
theorem dX7_image_0 : decode cX7_image 0 = .ok (.iload_n 1, 1) := by decide +kernel
theorem dX7_image_1 : decode cX7_image 1 = .ok (.ifCond .lt 8, 3) := by decide +kernel
theorem dX7_image_4 : decode cX7_image 4 = .ok (.iload_n 1, 1) := by decide +kernel
theorem dX7_image_5 : decode cX7_image 5 = .ok (.iconst 2, 1) := by decide +kernel
theorem dX7_image_6 : decode cX7_image 6 = .ok (.if_icmp .lt 6, 3) := by decide +kernel
theorem dX7_image_9 : decode cX7_image 9 = .ok (.ldc 70, 2) := by decide +kernel
theorem dX7_image_11 : decode cX7_image 11 = .ok (.ireturn, 1) := by decide +kernel
theorem dX7_image_12 : decode cX7_image 12 = .ok (.aload_n 0, 1) := by decide +kernel
theorem dX7_image_13 : decode cX7_image 13 = .ok (.getfield 34, 3) := by decide +kernel
theorem dX7_image_16 : decode cX7_image 16 = .ok (.getfield 138, 3) := by decide +kernel
theorem dX7_image_19 : decode cX7_image 19 = .ok (.ifCond .ne 6, 3) := by decide +kernel
theorem dX7_image_22 : decode cX7_image 22 = .ok (.ldc 141, 2) := by decide +kernel
theorem dX7_image_24 : decode cX7_image 24 = .ok (.ireturn, 1) := by decide +kernel
theorem dX7_image_25 : decode cX7_image 25 = .ok (.aload_n 0, 1) := by decide +kernel
theorem dX7_image_26 : decode cX7_image 26 = .ok (.getfield 38, 3) := by decide +kernel
theorem dX7_image_29 : decode cX7_image 29 = .ok (.iload_n 1, 1) := by decide +kernel
theorem dX7_image_30 : decode cX7_image 30 = .ok (.aaload, 1) := by decide +kernel
theorem dX7_image_31 : decode cX7_image 31 = .ok (.aload_n 0, 1) := by decide +kernel
theorem dX7_image_32 : decode cX7_image 32 = .ok (.getfield 34, 3) := by decide +kernel
theorem dX7_image_35 : decode cX7_image 35 = .ok (.invokevirtual 132, 3) := by decide +kernel
theorem dX7_image_38 : decode cX7_image 38 = .ok (.iconst 1, 1) := by decide +kernel
theorem dX7_image_39 : decode cX7_image 39 = .ok (.ireturn, 1) := by decide +kernel
theorem dX7_restore_0 : decode cX7_restore 0 = .ok (.iload_n 1, 1) := by decide +kernel
theorem dX7_restore_1 : decode cX7_restore 1 = .ok (.ifCond .lt 8, 3) := by decide +kernel
theorem dX7_restore_4 : decode cX7_restore 4 = .ok (.iload_n 1, 1) := by decide +kernel
theorem dX7_restore_5 : decode cX7_restore 5 = .ok (.iconst 2, 1) := by decide +kernel
theorem dX7_restore_6 : decode cX7_restore 6 = .ok (.if_icmp .lt 6, 3) := by decide +kernel
theorem dX7_restore_9 : decode cX7_restore 9 = .ok (.ldc 70, 2) := by decide +kernel
theorem dX7_restore_11 : decode cX7_restore 11 = .ok (.ireturn, 1) := by decide +kernel
theorem dX7_restore_12 : decode cX7_restore 12 = .ok (.aload_n 0, 1) := by decide +kernel
theorem dX7_restore_13 : decode cX7_restore 13 = .ok (.getfield 38, 3) := by decide +kernel
theorem dX7_restore_16 : decode cX7_restore 16 = .ok (.iload_n 1, 1) := by decide +kernel
theorem dX7_restore_17 : decode cX7_restore 17 = .ok (.aaload, 1) := by decide +kernel
theorem dX7_restore_18 : decode cX7_restore 18 = .ok (.getfield 138, 3) := by decide +kernel
theorem dX7_restore_21 : decode cX7_restore 21 = .ok (.ifCond .ne 6, 3) := by decide +kernel
theorem dX7_restore_24 : decode cX7_restore 24 = .ok (.ldc 141, 2) := by decide +kernel
theorem dX7_restore_26 : decode cX7_restore 26 = .ok (.ireturn, 1) := by decide +kernel
theorem dX7_restore_27 : decode cX7_restore 27 = .ok (.aload_n 0, 1) := by decide +kernel
theorem dX7_restore_28 : decode cX7_restore 28 = .ok (.getfield 34, 3) := by decide +kernel
theorem dX7_restore_31 : decode cX7_restore 31 = .ok (.aload_n 0, 1) := by decide +kernel
theorem dX7_restore_32 : decode cX7_restore 32 = .ok (.getfield 38, 3) := by decide +kernel
theorem dX7_restore_35 : decode cX7_restore 35 = .ok (.iload_n 1, 1) := by decide +kernel
theorem dX7_restore_36 : decode cX7_restore 36 = .ok (.aaload, 1) := by decide +kernel
theorem dX7_restore_37 : decode cX7_restore 37 = .ok (.invokevirtual 132, 3) := by decide +kernel
theorem dX7_restore_40 : decode cX7_restore 40 = .ok (.aload_n 0, 1) := by decide +kernel
theorem dX7_restore_41 : decode cX7_restore 41 = .ok (.getfield 45, 3) := by decide +kernel
theorem dX7_restore_44 : decode cX7_restore 44 = .ok (.invokevirtual 135, 3) := by decide +kernel
theorem dX7_restore_47 : decode cX7_restore 47 = .ok (.iconst 1, 1) := by decide +kernel
theorem dX7_restore_48 : decode cX7_restore 48 = .ok (.ireturn, 1) := by decide +kernel
theorem dX7_kind_0 : decode cX7_kind 0 = .ok (.aload_n 0, 1) := by decide +kernel
theorem dX7_kind_1 : decode cX7_kind 1 = .ok (.getfield 34, 3) := by decide +kernel
theorem dX7_kind_4 : decode cX7_kind 4 = .ok (.iload_n 1, 1) := by decide +kernel
theorem dX7_kind_5 : decode cX7_kind 5 = .ok (.invokevirtual 180, 3) := by decide +kernel
theorem dX7_kind_8 : decode cX7_kind 8 = .ok (.ifCond .eq 15, 3) := by decide +kernel
theorem dX7_kind_11 : decode cX7_kind 11 = .ok (.aload_n 0, 1) := by decide +kernel
theorem dX7_kind_12 : decode cX7_kind 12 = .ok (.getfield 34, 3) := by decide +kernel
theorem dX7_kind_15 : decode cX7_kind 15 = .ok (.getfield 237, 3) := by decide +kernel
theorem dX7_kind_18 : decode cX7_kind 18 = .ok (.iload_n 1, 1) := by decide +kernel
theorem dX7_kind_19 : decode cX7_kind 19 = .ok (.iaload, 1) := by decide +kernel
theorem dX7_kind_20 : decode cX7_kind 20 = .ok (.goto 5, 3) := by decide +kernel
theorem dX7_kind_23 : decode cX7_kind 23 = .ok (.ldc 70, 2) := by decide +kernel
theorem dX7_kind_25 : decode cX7_kind 25 = .ok (.ireturn, 1) := by decide +kernel
theorem dX7_as_0 : decode cX7_as 0 = .ok (.aload_n 0, 1) := by decide +kernel
theorem dX7_as_1 : decode cX7_as 1 = .ok (.getfield 34, 3) := by decide +kernel
theorem dX7_as_4 : decode cX7_as 4 = .ok (.iload_n 1, 1) := by decide +kernel
theorem dX7_as_5 : decode cX7_as 5 = .ok (.invokevirtual 180, 3) := by decide +kernel
theorem dX7_as_8 : decode cX7_as 8 = .ok (.ifCond .eq 12, 3) := by decide +kernel
theorem dX7_as_11 : decode cX7_as 11 = .ok (.iload_n 2, 1) := by decide +kernel
theorem dX7_as_12 : decode cX7_as 12 = .ok (.ifCond .lt 8, 3) := by decide +kernel
theorem dX7_as_15 : decode cX7_as 15 = .ok (.iload_n 2, 1) := by decide +kernel
theorem dX7_as_16 : decode cX7_as 16 = .ok (.iconst 5, 1) := by decide +kernel
theorem dX7_as_17 : decode cX7_as 17 = .ok (.if_icmp .le 6, 3) := by decide +kernel
theorem dX7_as_20 : decode cX7_as 20 = .ok (.ldc 70, 2) := by decide +kernel
theorem dX7_as_22 : decode cX7_as 22 = .ok (.ireturn, 1) := by decide +kernel
theorem dX7_as_23 : decode cX7_as 23 = .ok (.aload_n 0, 1) := by decide +kernel
theorem dX7_as_24 : decode cX7_as 24 = .ok (.getfield 34, 3) := by decide +kernel
theorem dX7_as_27 : decode cX7_as 27 = .ok (.getfield 237, 3) := by decide +kernel
theorem dX7_as_30 : decode cX7_as 30 = .ok (.iload_n 1, 1) := by decide +kernel
theorem dX7_as_31 : decode cX7_as 31 = .ok (.iaload, 1) := by decide +kernel
theorem dX7_as_32 : decode cX7_as 32 = .ok (.iload_n 2, 1) := by decide +kernel
theorem dX7_as_33 : decode cX7_as 33 = .ok (.invokestatic 240, 3) := by decide +kernel
theorem dX7_as_36 : decode cX7_as 36 = .ok (.ifCond .ne 9, 3) := by decide +kernel
theorem dX7_as_39 : decode cX7_as 39 = .ok (.aload_n 0, 1) := by decide +kernel
theorem dX7_as_40 : decode cX7_as 40 = .ok (.iconst 3, 1) := by decide +kernel
theorem dX7_as_41 : decode cX7_as 41 = .ok (.invokevirtual 71, 3) := by decide +kernel
theorem dX7_as_44 : decode cX7_as 44 = .ok (.ireturn, 1) := by decide +kernel
theorem dX7_as_45 : decode cX7_as 45 = .ok (.aload_n 0, 1) := by decide +kernel
theorem dX7_as_46 : decode cX7_as 46 = .ok (.iconst 0, 1) := by decide +kernel
theorem dX7_as_47 : decode cX7_as 47 = .ok (.putfield 79, 3) := by decide +kernel
theorem dX7_as_50 : decode cX7_as 50 = .ok (.iload_n 1, 1) := by decide +kernel
theorem dX7_as_51 : decode cX7_as 51 = .ok (.ireturn, 1) := by decide +kernel
theorem dX7_ask_0 : decode cX7_ask 0 = .ok (.aload_n 0, 1) := by decide +kernel
theorem dX7_ask_1 : decode cX7_ask 1 = .ok (.getfield 34, 3) := by decide +kernel
theorem dX7_ask_4 : decode cX7_ask 4 = .ok (.iload_n 1, 1) := by decide +kernel
theorem dX7_ask_5 : decode cX7_ask 5 = .ok (.invokevirtual 180, 3) := by decide +kernel
theorem dX7_ask_8 : decode cX7_ask 8 = .ok (.ifCond .eq 12, 3) := by decide +kernel
theorem dX7_ask_11 : decode cX7_ask 11 = .ok (.iload_n 2, 1) := by decide +kernel
theorem dX7_ask_12 : decode cX7_ask 12 = .ok (.ifCond .lt 8, 3) := by decide +kernel
theorem dX7_ask_15 : decode cX7_ask 15 = .ok (.iload_n 2, 1) := by decide +kernel
theorem dX7_ask_16 : decode cX7_ask 16 = .ok (.iconst 1, 1) := by decide +kernel
theorem dX7_ask_17 : decode cX7_ask 17 = .ok (.if_icmp .le 6, 3) := by decide +kernel
theorem dX7_ask_20 : decode cX7_ask 20 = .ok (.ldc 70, 2) := by decide +kernel
theorem dX7_ask_22 : decode cX7_ask 22 = .ok (.ireturn, 1) := by decide +kernel
theorem dX7_ask_23 : decode cX7_ask 23 = .ok (.aload_n 0, 1) := by decide +kernel
theorem dX7_ask_24 : decode cX7_ask 24 = .ok (.getfield 61, 3) := by decide +kernel
theorem dX7_ask_27 : decode cX7_ask 27 = .ok (.iload_n 1, 1) := by decide +kernel
theorem dX7_ask_28 : decode cX7_ask 28 = .ok (.iload_n 2, 1) := by decide +kernel
theorem dX7_ask_29 : decode cX7_ask 29 = .ok (.invokevirtual 243, 3) := by decide +kernel
theorem dX7_ask_32 : decode cX7_ask 32 = .ok (.ireturn, 1) := by decide +kernel
theorem dX7_trace_0 : decode cX7_trace 0 = .ok (.iload_n 1, 1) := by decide +kernel
theorem dX7_trace_1 : decode cX7_trace 1 = .ok (.ifCond .lt 14, 3) := by decide +kernel
theorem dX7_trace_4 : decode cX7_trace 4 = .ok (.iload_n 1, 1) := by decide +kernel
theorem dX7_trace_5 : decode cX7_trace 5 = .ok (.aload_n 0, 1) := by decide +kernel
theorem dX7_trace_6 : decode cX7_trace 6 = .ok (.getfield 61, 3) := by decide +kernel
theorem dX7_trace_9 : decode cX7_trace 9 = .ok (.getfield 246, 3) := by decide +kernel
theorem dX7_trace_12 : decode cX7_trace 12 = .ok (.if_icmp .lt 8, 3) := by decide +kernel
theorem dX7_trace_15 : decode cX7_trace 15 = .ok (.ldc 233, 2) := by decide +kernel
theorem dX7_trace_17 : decode cX7_trace 17 = .ok (.goto 12, 3) := by decide +kernel
theorem dX7_trace_20 : decode cX7_trace 20 = .ok (.aload_n 0, 1) := by decide +kernel
theorem dX7_trace_21 : decode cX7_trace 21 = .ok (.getfield 61, 3) := by decide +kernel
theorem dX7_trace_24 : decode cX7_trace 24 = .ok (.getfield 249, 3) := by decide +kernel
theorem dX7_trace_27 : decode cX7_trace 27 = .ok (.iload_n 1, 1) := by decide +kernel
theorem dX7_trace_28 : decode cX7_trace 28 = .ok (.iaload, 1) := by decide +kernel
theorem dX7_trace_29 : decode cX7_trace 29 = .ok (.ireturn, 1) := by decide +kernel
theorem dX7_count_0 : decode cX7_count 0 = .ok (.iload_n 1, 1) := by decide +kernel
theorem dX7_count_1 : decode cX7_count 1 = .ok (.tableswitch 96 0 6 #[43, 48, 56, 64, 72, 80, 88], 43) := by decide +kernel
theorem dX7_count_44 : decode cX7_count 44 = .ok (.aload_n 0, 1) := by decide +kernel
theorem dX7_count_45 : decode cX7_count 45 = .ok (.invokevirtual 252, 3) := by decide +kernel
theorem dX7_count_48 : decode cX7_count 48 = .ok (.ireturn, 1) := by decide +kernel
theorem dX7_count_49 : decode cX7_count 49 = .ok (.aload_n 0, 1) := by decide +kernel
theorem dX7_count_50 : decode cX7_count 50 = .ok (.getfield 34, 3) := by decide +kernel
theorem dX7_count_53 : decode cX7_count 53 = .ok (.getfield 138, 3) := by decide +kernel
theorem dX7_count_56 : decode cX7_count 56 = .ok (.ireturn, 1) := by decide +kernel
theorem dX7_count_57 : decode cX7_count 57 = .ok (.aload_n 0, 1) := by decide +kernel
theorem dX7_count_58 : decode cX7_count 58 = .ok (.getfield 34, 3) := by decide +kernel
theorem dX7_count_61 : decode cX7_count 61 = .ok (.getfield 152, 3) := by decide +kernel
theorem dX7_count_64 : decode cX7_count 64 = .ok (.ireturn, 1) := by decide +kernel
theorem dX7_count_65 : decode cX7_count 65 = .ok (.aload_n 0, 1) := by decide +kernel
theorem dX7_count_66 : decode cX7_count 66 = .ok (.getfield 34, 3) := by decide +kernel
theorem dX7_count_69 : decode cX7_count 69 = .ok (.getfield 142, 3) := by decide +kernel
theorem dX7_count_72 : decode cX7_count 72 = .ok (.ireturn, 1) := by decide +kernel
theorem dX7_count_73 : decode cX7_count 73 = .ok (.aload_n 0, 1) := by decide +kernel
theorem dX7_count_74 : decode cX7_count 74 = .ok (.getfield 45, 3) := by decide +kernel
theorem dX7_count_77 : decode cX7_count 77 = .ok (.getfield 186, 3) := by decide +kernel
theorem dX7_count_80 : decode cX7_count 80 = .ok (.ireturn, 1) := by decide +kernel
theorem dX7_count_81 : decode cX7_count 81 = .ok (.aload_n 0, 1) := by decide +kernel
theorem dX7_count_82 : decode cX7_count 82 = .ok (.getfield 34, 3) := by decide +kernel
theorem dX7_count_85 : decode cX7_count 85 = .ok (.invokevirtual 167, 3) := by decide +kernel
theorem dX7_count_88 : decode cX7_count 88 = .ok (.ireturn, 1) := by decide +kernel
theorem dX7_count_89 : decode cX7_count 89 = .ok (.aload_n 0, 1) := by decide +kernel
theorem dX7_count_90 : decode cX7_count 90 = .ok (.getfield 18, 3) := by decide +kernel
theorem dX7_count_93 : decode cX7_count 93 = .ok (.getfield 111, 3) := by decide +kernel
theorem dX7_count_96 : decode cX7_count 96 = .ok (.ireturn, 1) := by decide +kernel
theorem dX7_count_97 : decode cX7_count 97 = .ok (.ldc 70, 2) := by decide +kernel
theorem dX7_count_99 : decode cX7_count 99 = .ok (.ireturn, 1) := by decide +kernel
theorem dX7_status_0 : decode cX7_status 0 = .ok (.aload_n 0, 1) := by decide +kernel
theorem dX7_status_1 : decode cX7_status 1 = .ok (.getfield 79, 3) := by decide +kernel
theorem dX7_status_4 : decode cX7_status 4 = .ok (.ireturn, 1) := by decide +kernel
theorem dX7_isRow_0 : decode cX7_isRow 0 = .ok (.iload_n 0, 1) := by decide +kernel
theorem dX7_isRow_1 : decode cX7_isRow 1 = .ok (.ifCond .lt 13, 3) := by decide +kernel
theorem dX7_isRow_4 : decode cX7_isRow 4 = .ok (.iload_n 0, 1) := by decide +kernel
theorem dX7_isRow_5 : decode cX7_isRow 5 = .ok (.bipush 8, 2) := by decide +kernel
theorem dX7_isRow_7 : decode cX7_isRow 7 = .ok (.if_icmp .ge 7, 3) := by decide +kernel
theorem dX7_isRow_10 : decode cX7_isRow 10 = .ok (.iconst 1, 1) := by decide +kernel
theorem dX7_isRow_11 : decode cX7_isRow 11 = .ok (.goto 4, 3) := by decide +kernel
theorem dX7_isRow_14 : decode cX7_isRow 14 = .ok (.iconst 0, 1) := by decide +kernel
theorem dX7_isRow_15 : decode cX7_isRow 15 = .ok (.ireturn, 1) := by decide +kernel
theorem dX7_found_0 : decode cX7_found 0 = .ok (.aload_n 0, 1) := by decide +kernel
theorem dX7_found_1 : decode cX7_found 1 = .ok (.iload_n 1, 1) := by decide +kernel
theorem dX7_found_2 : decode cX7_found 2 = .ok (.putfield 79, 3) := by decide +kernel
theorem dX7_found_5 : decode cX7_found 5 = .ok (.ldc 255, 2) := by decide +kernel
theorem dX7_found_7 : decode cX7_found 7 = .ok (.iload_n 1, 1) := by decide +kernel
theorem dX7_found_8 : decode cX7_found 8 = .ok (.isub, 1) := by decide +kernel
theorem dX7_found_9 : decode cX7_found 9 = .ok (.ireturn, 1) := by decide +kernel
theorem dX7_countRows_0 : decode cX7_countRows 0 = .ok (.iconst 0, 1) := by decide +kernel
theorem dX7_countRows_1 : decode cX7_countRows 1 = .ok (.istore_n 1, 1) := by decide +kernel
theorem dX7_countRows_2 : decode cX7_countRows 2 = .ok (.iconst 0, 1) := by decide +kernel
theorem dX7_countRows_3 : decode cX7_countRows 3 = .ok (.istore_n 2, 1) := by decide +kernel
theorem dX7_countRows_4 : decode cX7_countRows 4 = .ok (.iload_n 2, 1) := by decide +kernel
theorem dX7_countRows_5 : decode cX7_countRows 5 = .ok (.bipush 8, 2) := by decide +kernel
theorem dX7_countRows_7 : decode cX7_countRows 7 = .ok (.if_icmp .ge 24, 3) := by decide +kernel
theorem dX7_countRows_10 : decode cX7_countRows 10 = .ok (.aload_n 0, 1) := by decide +kernel
theorem dX7_countRows_11 : decode cX7_countRows 11 = .ok (.getfield 11, 3) := by decide +kernel
theorem dX7_countRows_14 : decode cX7_countRows 14 = .ok (.iload_n 2, 1) := by decide +kernel
theorem dX7_countRows_15 : decode cX7_countRows 15 = .ok (.aaload, 1) := by decide +kernel
theorem dX7_countRows_16 : decode cX7_countRows 16 = .ok (.getfield 83, 3) := by decide +kernel
theorem dX7_countRows_19 : decode cX7_countRows 19 = .ok (.ifCond .eq 6, 3) := by decide +kernel
theorem dX7_countRows_22 : decode cX7_countRows 22 = .ok (.iinc 1 1, 3) := by decide +kernel
theorem dX7_countRows_25 : decode cX7_countRows 25 = .ok (.iinc 2 1, 3) := by decide +kernel
theorem dX7_countRows_28 : decode cX7_countRows 28 = .ok (.goto (-24), 3) := by decide +kernel
theorem dX7_countRows_31 : decode cX7_countRows 31 = .ok (.iload_n 1, 1) := by decide +kernel
theorem dX7_countRows_32 : decode cX7_countRows 32 = .ok (.ireturn, 1) := by decide +kernel
theorem dX7_tooManyHeads_0 : decode cX7_tooManyHeads 0 = .ok (.iconst 0, 1) := by decide +kernel
theorem dX7_tooManyHeads_1 : decode cX7_tooManyHeads 1 = .ok (.istore 4, 2) := by decide +kernel
theorem dX7_tooManyHeads_3 : decode cX7_tooManyHeads 3 = .ok (.iload 4, 2) := by decide +kernel
theorem dX7_tooManyHeads_5 : decode cX7_tooManyHeads 5 = .ok (.aload_n 0, 1) := by decide +kernel
theorem dX7_tooManyHeads_6 : decode cX7_tooManyHeads 6 = .ok (.getfield 34, 3) := by decide +kernel
theorem dX7_tooManyHeads_9 : decode cX7_tooManyHeads 9 = .ok (.getfield 152, 3) := by decide +kernel
theorem dX7_tooManyHeads_12 : decode cX7_tooManyHeads 12 = .ok (.if_icmp .ge 35, 3) := by decide +kernel
theorem dX7_tooManyHeads_15 : decode cX7_tooManyHeads 15 = .ok (.aload_n 0, 1) := by decide +kernel
theorem dX7_tooManyHeads_16 : decode cX7_tooManyHeads 16 = .ok (.getfield 34, 3) := by decide +kernel
theorem dX7_tooManyHeads_19 : decode cX7_tooManyHeads 19 = .ok (.getfield 183, 3) := by decide +kernel
theorem dX7_tooManyHeads_22 : decode cX7_tooManyHeads 22 = .ok (.iload 4, 2) := by decide +kernel
theorem dX7_tooManyHeads_24 : decode cX7_tooManyHeads 24 = .ok (.iaload, 1) := by decide +kernel
theorem dX7_tooManyHeads_25 : decode cX7_tooManyHeads 25 = .ok (.aload_n 1, 1) := by decide +kernel
theorem dX7_tooManyHeads_26 : decode cX7_tooManyHeads 26 = .ok (.iload_n 2, 1) := by decide +kernel
theorem dX7_tooManyHeads_27 : decode cX7_tooManyHeads 27 = .ok (.iload_n 3, 1) := by decide +kernel
theorem dX7_tooManyHeads_28 : decode cX7_tooManyHeads 28 = .ok (.iload 4, 2) := by decide +kernel
theorem dX7_tooManyHeads_30 : decode cX7_tooManyHeads 30 = .ok (.invokevirtual 256, 3) := by decide +kernel
theorem dX7_tooManyHeads_33 : decode cX7_tooManyHeads 33 = .ok (.iadd, 1) := by decide +kernel
theorem dX7_tooManyHeads_34 : decode cX7_tooManyHeads 34 = .ok (.bipush 99, 2) := by decide +kernel
theorem dX7_tooManyHeads_36 : decode cX7_tooManyHeads 36 = .ok (.if_icmp .le 5, 3) := by decide +kernel
theorem dX7_tooManyHeads_39 : decode cX7_tooManyHeads 39 = .ok (.iconst 1, 1) := by decide +kernel
theorem dX7_tooManyHeads_40 : decode cX7_tooManyHeads 40 = .ok (.ireturn, 1) := by decide +kernel
theorem dX7_tooManyHeads_41 : decode cX7_tooManyHeads 41 = .ok (.iinc 4 1, 3) := by decide +kernel
theorem dX7_tooManyHeads_44 : decode cX7_tooManyHeads 44 = .ok (.goto (-41), 3) := by decide +kernel
theorem dX7_tooManyHeads_47 : decode cX7_tooManyHeads 47 = .ok (.iconst 0, 1) := by decide +kernel
theorem dX7_tooManyHeads_48 : decode cX7_tooManyHeads 48 = .ok (.ireturn, 1) := by decide +kernel
theorem dX7_fewest_0 : decode cX7_fewest 0 = .ok (.aload_n 0, 1) := by decide +kernel
theorem dX7_fewest_1 : decode cX7_fewest 1 = .ok (.getfield 34, 3) := by decide +kernel
theorem dX7_fewest_4 : decode cX7_fewest 4 = .ok (.iload_n 1, 1) := by decide +kernel
theorem dX7_fewest_5 : decode cX7_fewest 5 = .ok (.invokevirtual 170, 3) := by decide +kernel
theorem dX7_fewest_8 : decode cX7_fewest 8 = .ok (.ifCond .eq 23, 3) := by decide +kernel
theorem dX7_fewest_11 : decode cX7_fewest 11 = .ok (.iload_n 2, 1) := by decide +kernel
theorem dX7_fewest_12 : decode cX7_fewest 12 = .ok (.iconst 1, 1) := by decide +kernel
theorem dX7_fewest_13 : decode cX7_fewest 13 = .ok (.if_icmp .lt 18, 3) := by decide +kernel
theorem dX7_fewest_16 : decode cX7_fewest 16 = .ok (.iload_n 2, 1) := by decide +kernel
theorem dX7_fewest_17 : decode cX7_fewest 17 = .ok (.bipush 20, 2) := by decide +kernel
theorem dX7_fewest_19 : decode cX7_fewest 19 = .ok (.if_icmp .gt 12, 3) := by decide +kernel
theorem dX7_fewest_22 : decode cX7_fewest 22 = .ok (.iload_n 3, 1) := by decide +kernel
theorem dX7_fewest_23 : decode cX7_fewest 23 = .ok (.ifCond .lt 8, 3) := by decide +kernel
theorem dX7_fewest_26 : decode cX7_fewest 26 = .ok (.iload_n 3, 1) := by decide +kernel
theorem dX7_fewest_27 : decode cX7_fewest 27 = .ok (.iconst 1, 1) := by decide +kernel
theorem dX7_fewest_28 : decode cX7_fewest 28 = .ok (.if_icmp .le 6, 3) := by decide +kernel
theorem dX7_fewest_31 : decode cX7_fewest 31 = .ok (.ldc 70, 2) := by decide +kernel
theorem dX7_fewest_33 : decode cX7_fewest 33 = .ok (.ireturn, 1) := by decide +kernel
theorem dX7_fewest_34 : decode cX7_fewest 34 = .ok (.aload_n 0, 1) := by decide +kernel
theorem dX7_fewest_35 : decode cX7_fewest 35 = .ok (.getfield 54, 3) := by decide +kernel
theorem dX7_fewest_38 : decode cX7_fewest 38 = .ok (.iload_n 1, 1) := by decide +kernel
theorem dX7_fewest_39 : decode cX7_fewest 39 = .ok (.iload_n 2, 1) := by decide +kernel
theorem dX7_fewest_40 : decode cX7_fewest 40 = .ok (.iload 4, 2) := by decide +kernel
theorem dX7_fewest_42 : decode cX7_fewest 42 = .ok (.invokevirtual 259, 3) := by decide +kernel
theorem dX7_fewest_45 : decode cX7_fewest 45 = .ok (.ifCond .ne 6, 3) := by decide +kernel
theorem dX7_fewest_48 : decode cX7_fewest 48 = .ok (.ldc 233, 2) := by decide +kernel
theorem dX7_fewest_50 : decode cX7_fewest 50 = .ok (.ireturn, 1) := by decide +kernel
theorem dX7_fewest_51 : decode cX7_fewest 51 = .ok (.iload_n 3, 1) := by decide +kernel
theorem dX7_fewest_52 : decode cX7_fewest 52 = .ok (.ifCond .ne 13, 3) := by decide +kernel
theorem dX7_fewest_55 : decode cX7_fewest 55 = .ok (.aload_n 0, 1) := by decide +kernel
theorem dX7_fewest_56 : decode cX7_fewest 56 = .ok (.getfield 54, 3) := by decide +kernel
theorem dX7_fewest_59 : decode cX7_fewest 59 = .ok (.getfield 263, 3) := by decide +kernel
theorem dX7_fewest_62 : decode cX7_fewest 62 = .ok (.goto 10, 3) := by decide +kernel
theorem dX7_fewest_65 : decode cX7_fewest 65 = .ok (.aload_n 0, 1) := by decide +kernel
theorem dX7_fewest_66 : decode cX7_fewest 66 = .ok (.getfield 54, 3) := by decide +kernel
theorem dX7_fewest_69 : decode cX7_fewest 69 = .ok (.getfield 266, 3) := by decide +kernel
theorem dX7_fewest_72 : decode cX7_fewest 72 = .ok (.ireturn, 1) := by decide +kernel
theorem dX7_isA_0 : decode cX7_isA 0 = .ok (.iload_n 0, 1) := by decide +kernel
theorem dX7_isA_1 : decode cX7_isA 1 = .ok (.istore_n 2, 1) := by decide +kernel
theorem dX7_isA_2 : decode cX7_isA 2 = .ok (.iconst 0, 1) := by decide +kernel
theorem dX7_isA_3 : decode cX7_isA 3 = .ok (.istore_n 3, 1) := by decide +kernel
theorem dX7_isA_4 : decode cX7_isA 4 = .ok (.iload_n 3, 1) := by decide +kernel
theorem dX7_isA_5 : decode cX7_isA 5 = .ok (.getstatic 269, 3) := by decide +kernel
theorem dX7_isA_8 : decode cX7_isA 8 = .ok (.arraylength, 1) := by decide +kernel
theorem dX7_isA_9 : decode cX7_isA 9 = .ok (.if_icmp .ge 24, 3) := by decide +kernel
theorem dX7_isA_12 : decode cX7_isA 12 = .ok (.iload_n 2, 1) := by decide +kernel
theorem dX7_isA_13 : decode cX7_isA 13 = .ok (.iload_n 1, 1) := by decide +kernel
theorem dX7_isA_14 : decode cX7_isA 14 = .ok (.if_icmp .eq 19, 3) := by decide +kernel
theorem dX7_isA_17 : decode cX7_isA 17 = .ok (.iload_n 2, 1) := by decide +kernel
theorem dX7_isA_18 : decode cX7_isA 18 = .ok (.ifCond .le 15, 3) := by decide +kernel
theorem dX7_isA_21 : decode cX7_isA 21 = .ok (.getstatic 269, 3) := by decide +kernel
theorem dX7_isA_24 : decode cX7_isA 24 = .ok (.iload_n 2, 1) := by decide +kernel
theorem dX7_isA_25 : decode cX7_isA 25 = .ok (.iaload, 1) := by decide +kernel
theorem dX7_isA_26 : decode cX7_isA 26 = .ok (.istore_n 2, 1) := by decide +kernel
theorem dX7_isA_27 : decode cX7_isA 27 = .ok (.iinc 3 1, 3) := by decide +kernel
theorem dX7_isA_30 : decode cX7_isA 30 = .ok (.goto (-26), 3) := by decide +kernel
theorem dX7_isA_33 : decode cX7_isA 33 = .ok (.iload_n 2, 1) := by decide +kernel
theorem dX7_isA_34 : decode cX7_isA 34 = .ok (.iload_n 1, 1) := by decide +kernel
theorem dX7_isA_35 : decode cX7_isA 35 = .ok (.if_icmp .ne 7, 3) := by decide +kernel
theorem dX7_isA_38 : decode cX7_isA 38 = .ok (.iconst 1, 1) := by decide +kernel
theorem dX7_isA_39 : decode cX7_isA 39 = .ok (.goto 4, 3) := by decide +kernel
theorem dX7_isA_42 : decode cX7_isA 42 = .ok (.iconst 0, 1) := by decide +kernel
theorem dX7_isA_43 : decode cX7_isA 43 = .ok (.ireturn, 1) := by decide +kernel
