/-! decode rows: X2 -/
theorem dX2_init_0 : decode cX2_init 0 = .ok (.aload_n 0, 1) := by decide +kernel
theorem dX2_init_1 : decode cX2_init 1 = .ok (.invokespecial 3, 3) := by decide +kernel
theorem dX2_init_4 : decode cX2_init 4 = .ok (.aload_n 0, 1) := by decide +kernel
theorem dX2_init_5 : decode cX2_init 5 = .ok (.new 9, 3) := by decide +kernel
theorem dX2_init_8 : decode cX2_init 8 = .ok (.dup, 1) := by decide +kernel
theorem dX2_init_9 : decode cX2_init 9 = .ok (.invokespecial 11, 3) := by decide +kernel
theorem dX2_init_12 : decode cX2_init 12 = .ok (.putfield 12, 3) := by decide +kernel
theorem dX2_init_15 : decode cX2_init 15 = .ok (.aload_n 0, 1) := by decide +kernel
theorem dX2_init_16 : decode cX2_init 16 = .ok (.iconst 5, 1) := by decide +kernel
theorem dX2_init_17 : decode cX2_init 17 = .ok (.newarray .int, 2) := by decide +kernel
theorem dX2_init_19 : decode cX2_init 19 = .ok (.putfield 18, 3) := by decide +kernel
theorem dX2_init_22 : decode cX2_init 22 = .ok (.aload_n 0, 1) := by decide +kernel
theorem dX2_init_23 : decode cX2_init 23 = .ok (.iconst 5, 1) := by decide +kernel
theorem dX2_init_24 : decode cX2_init 24 = .ok (.newarray .int, 2) := by decide +kernel
theorem dX2_init_26 : decode cX2_init 26 = .ok (.putfield 22, 3) := by decide +kernel
theorem dX2_init_29 : decode cX2_init 29 = .ok (.aload_n 0, 1) := by decide +kernel
theorem dX2_init_30 : decode cX2_init 30 = .ok (.aload_n 1, 1) := by decide +kernel
theorem dX2_init_31 : decode cX2_init 31 = .ok (.putfield 25, 3) := by decide +kernel
theorem dX2_init_34 : decode cX2_init 34 = .ok (.return_, 1) := by decide +kernel
theorem dX2_whereBehind_0 : decode cX2_whereBehind 0 = .ok (.aload_n 0, 1) := by decide +kernel
theorem dX2_whereBehind_1 : decode cX2_whereBehind 1 = .ok (.getfield 12, 3) := by decide +kernel
theorem dX2_whereBehind_4 : decode cX2_whereBehind 4 = .ok (.aload_n 0, 1) := by decide +kernel
theorem dX2_whereBehind_5 : decode cX2_whereBehind 5 = .ok (.getfield 25, 3) := by decide +kernel
theorem dX2_whereBehind_8 : decode cX2_whereBehind 8 = .ok (.invokevirtual 28, 3) := by decide +kernel
theorem dX2_whereBehind_11 : decode cX2_whereBehind 11 = .ok (.aload_n 0, 1) := by decide +kernel
theorem dX2_whereBehind_12 : decode cX2_whereBehind 12 = .ok (.iload_n 2, 1) := by decide +kernel
theorem dX2_whereBehind_13 : decode cX2_whereBehind 13 = .ok (.invokevirtual 32, 3) := by decide +kernel
theorem dX2_whereBehind_16 : decode cX2_whereBehind 16 = .ok (.aload_n 0, 1) := by decide +kernel
theorem dX2_whereBehind_17 : decode cX2_whereBehind 17 = .ok (.getfield 12, 3) := by decide +kernel
theorem dX2_whereBehind_20 : decode cX2_whereBehind 20 = .ok (.getfield 36, 3) := by decide +kernel
theorem dX2_whereBehind_23 : decode cX2_whereBehind 23 = .ok (.iload_n 1, 1) := by decide +kernel
theorem dX2_whereBehind_24 : decode cX2_whereBehind 24 = .ok (.iaload, 1) := by decide +kernel
theorem dX2_whereBehind_25 : decode cX2_whereBehind 25 = .ok (.ireturn, 1) := by decide +kernel
theorem dX2_headsBehind_0 : decode cX2_headsBehind 0 = .ok (.aload_n 0, 1) := by decide +kernel
theorem dX2_headsBehind_1 : decode cX2_headsBehind 1 = .ok (.getfield 12, 3) := by decide +kernel
theorem dX2_headsBehind_4 : decode cX2_headsBehind 4 = .ok (.aload_n 0, 1) := by decide +kernel
theorem dX2_headsBehind_5 : decode cX2_headsBehind 5 = .ok (.getfield 25, 3) := by decide +kernel
theorem dX2_headsBehind_8 : decode cX2_headsBehind 8 = .ok (.invokevirtual 28, 3) := by decide +kernel
theorem dX2_headsBehind_11 : decode cX2_headsBehind 11 = .ok (.aload_n 0, 1) := by decide +kernel
theorem dX2_headsBehind_12 : decode cX2_headsBehind 12 = .ok (.iload_n 2, 1) := by decide +kernel
theorem dX2_headsBehind_13 : decode cX2_headsBehind 13 = .ok (.invokevirtual 32, 3) := by decide +kernel
theorem dX2_headsBehind_16 : decode cX2_headsBehind 16 = .ok (.aload_n 0, 1) := by decide +kernel
theorem dX2_headsBehind_17 : decode cX2_headsBehind 17 = .ok (.getfield 12, 3) := by decide +kernel
theorem dX2_headsBehind_20 : decode cX2_headsBehind 20 = .ok (.iload_n 1, 1) := by decide +kernel
theorem dX2_headsBehind_21 : decode cX2_headsBehind 21 = .ok (.invokevirtual 39, 3) := by decide +kernel
theorem dX2_headsBehind_24 : decode cX2_headsBehind 24 = .ok (.ireturn, 1) := by decide +kernel
theorem dX2_worth_0 : decode cX2_worth 0 = .ok (.aload_n 0, 1) := by decide +kernel
theorem dX2_worth_1 : decode cX2_worth 1 = .ok (.getfield 12, 3) := by decide +kernel
theorem dX2_worth_4 : decode cX2_worth 4 = .ok (.aload_n 0, 1) := by decide +kernel
theorem dX2_worth_5 : decode cX2_worth 5 = .ok (.getfield 25, 3) := by decide +kernel
theorem dX2_worth_8 : decode cX2_worth 8 = .ok (.invokevirtual 28, 3) := by decide +kernel
theorem dX2_worth_11 : decode cX2_worth 11 = .ok (.iconst 0, 1) := by decide +kernel
theorem dX2_worth_12 : decode cX2_worth 12 = .ok (.istore_n 3, 1) := by decide +kernel
theorem dX2_worth_13 : decode cX2_worth 13 = .ok (.iconst 0, 1) := by decide +kernel
theorem dX2_worth_14 : decode cX2_worth 14 = .ok (.istore 4, 2) := by decide +kernel
theorem dX2_worth_16 : decode cX2_worth 16 = .ok (.iload 4, 2) := by decide +kernel
theorem dX2_worth_18 : decode cX2_worth 18 = .ok (.iload_n 2, 1) := by decide +kernel
theorem dX2_worth_19 : decode cX2_worth 19 = .ok (.if_icmp .ge 40, 3) := by decide +kernel
theorem dX2_worth_22 : decode cX2_worth 22 = .ok (.aload_n 0, 1) := by decide +kernel
theorem dX2_worth_23 : decode cX2_worth 23 = .ok (.getfield 12, 3) := by decide +kernel
theorem dX2_worth_26 : decode cX2_worth 26 = .ok (.invokevirtual 43, 3) := by decide +kernel
theorem dX2_worth_29 : decode cX2_worth 29 = .ok (.pop, 1) := by decide +kernel
theorem dX2_worth_30 : decode cX2_worth 30 = .ok (.iload_n 3, 1) := by decide +kernel
theorem dX2_worth_31 : decode cX2_worth 31 = .ok (.aload_n 0, 1) := by decide +kernel
theorem dX2_worth_32 : decode cX2_worth 32 = .ok (.getfield 12, 3) := by decide +kernel
theorem dX2_worth_35 : decode cX2_worth 35 = .ok (.iload_n 1, 1) := by decide +kernel
theorem dX2_worth_36 : decode cX2_worth 36 = .ok (.invokevirtual 39, 3) := by decide +kernel
theorem dX2_worth_39 : decode cX2_worth 39 = .ok (.aload_n 0, 1) := by decide +kernel
theorem dX2_worth_40 : decode cX2_worth 40 = .ok (.getfield 25, 3) := by decide +kernel
theorem dX2_worth_43 : decode cX2_worth 43 = .ok (.getfield 47, 3) := by decide +kernel
theorem dX2_worth_46 : decode cX2_worth 46 = .ok (.iload_n 1, 1) := by decide +kernel
theorem dX2_worth_47 : decode cX2_worth 47 = .ok (.iaload, 1) := by decide +kernel
theorem dX2_worth_48 : decode cX2_worth 48 = .ok (.invokestatic 50, 3) := by decide +kernel
theorem dX2_worth_51 : decode cX2_worth 51 = .ok (.iadd, 1) := by decide +kernel
theorem dX2_worth_52 : decode cX2_worth 52 = .ok (.istore_n 3, 1) := by decide +kernel
theorem dX2_worth_53 : decode cX2_worth 53 = .ok (.iinc 4 1, 3) := by decide +kernel
theorem dX2_worth_56 : decode cX2_worth 56 = .ok (.goto (-40), 3) := by decide +kernel
theorem dX2_worth_59 : decode cX2_worth 59 = .ok (.iload_n 3, 1) := by decide +kernel
theorem dX2_worth_60 : decode cX2_worth 60 = .ok (.ireturn, 1) := by decide +kernel
theorem dX2_bellsToRest_0 : decode cX2_bellsToRest 0 = .ok (.aload_n 0, 1) := by decide +kernel
theorem dX2_bellsToRest_1 : decode cX2_bellsToRest 1 = .ok (.getfield 12, 3) := by decide +kernel
theorem dX2_bellsToRest_4 : decode cX2_bellsToRest 4 = .ok (.aload_n 0, 1) := by decide +kernel
theorem dX2_bellsToRest_5 : decode cX2_bellsToRest 5 = .ok (.getfield 25, 3) := by decide +kernel
theorem dX2_bellsToRest_8 : decode cX2_bellsToRest 8 = .ok (.invokevirtual 28, 3) := by decide +kernel
theorem dX2_bellsToRest_11 : decode cX2_bellsToRest 11 = .ok (.iconst 0, 1) := by decide +kernel
theorem dX2_bellsToRest_12 : decode cX2_bellsToRest 12 = .ok (.istore_n 1, 1) := by decide +kernel
theorem dX2_bellsToRest_13 : decode cX2_bellsToRest 13 = .ok (.iconst 1, 1) := by decide +kernel
theorem dX2_bellsToRest_14 : decode cX2_bellsToRest 14 = .ok (.istore_n 2, 1) := by decide +kernel
theorem dX2_bellsToRest_15 : decode cX2_bellsToRest 15 = .ok (.iload_n 2, 1) := by decide +kernel
theorem dX2_bellsToRest_16 : decode cX2_bellsToRest 16 = .ok (.bipush 62, 2) := by decide +kernel
theorem dX2_bellsToRest_18 : decode cX2_bellsToRest 18 = .ok (.if_icmp .gt 36, 3) := by decide +kernel
theorem dX2_bellsToRest_21 : decode cX2_bellsToRest 21 = .ok (.aload_n 0, 1) := by decide +kernel
theorem dX2_bellsToRest_22 : decode cX2_bellsToRest 22 = .ok (.getfield 12, 3) := by decide +kernel
theorem dX2_bellsToRest_25 : decode cX2_bellsToRest 25 = .ok (.invokevirtual 43, 3) := by decide +kernel
theorem dX2_bellsToRest_28 : decode cX2_bellsToRest 28 = .ok (.ifCond .ne 9, 3) := by decide +kernel
theorem dX2_bellsToRest_31 : decode cX2_bellsToRest 31 = .ok (.iload_n 1, 1) := by decide +kernel
theorem dX2_bellsToRest_32 : decode cX2_bellsToRest 32 = .ok (.iconst 1, 1) := by decide +kernel
theorem dX2_bellsToRest_33 : decode cX2_bellsToRest 33 = .ok (.iadd, 1) := by decide +kernel
theorem dX2_bellsToRest_34 : decode cX2_bellsToRest 34 = .ok (.goto 4, 3) := by decide +kernel
theorem dX2_bellsToRest_37 : decode cX2_bellsToRest 37 = .ok (.iconst 0, 1) := by decide +kernel
theorem dX2_bellsToRest_38 : decode cX2_bellsToRest 38 = .ok (.istore_n 1, 1) := by decide +kernel
theorem dX2_bellsToRest_39 : decode cX2_bellsToRest 39 = .ok (.iload_n 1, 1) := by decide +kernel
theorem dX2_bellsToRest_40 : decode cX2_bellsToRest 40 = .ok (.iconst 2, 1) := by decide +kernel
theorem dX2_bellsToRest_41 : decode cX2_bellsToRest 41 = .ok (.if_icmp .ne 7, 3) := by decide +kernel
theorem dX2_bellsToRest_44 : decode cX2_bellsToRest 44 = .ok (.iload_n 2, 1) := by decide +kernel
theorem dX2_bellsToRest_45 : decode cX2_bellsToRest 45 = .ok (.iconst 2, 1) := by decide +kernel
theorem dX2_bellsToRest_46 : decode cX2_bellsToRest 46 = .ok (.isub, 1) := by decide +kernel
theorem dX2_bellsToRest_47 : decode cX2_bellsToRest 47 = .ok (.ireturn, 1) := by decide +kernel
theorem dX2_bellsToRest_48 : decode cX2_bellsToRest 48 = .ok (.iinc 2 1, 3) := by decide +kernel
theorem dX2_bellsToRest_51 : decode cX2_bellsToRest 51 = .ok (.goto (-36), 3) := by decide +kernel
theorem dX2_bellsToRest_54 : decode cX2_bellsToRest 54 = .ok (.ldc 56, 2) := by decide +kernel
theorem dX2_bellsToRest_56 : decode cX2_bellsToRest 56 = .ok (.ireturn, 1) := by decide +kernel
theorem dX2_bellsToRing_0 : decode cX2_bellsToRing 0 = .ok (.aload_n 0, 1) := by decide +kernel
theorem dX2_bellsToRing_1 : decode cX2_bellsToRing 1 = .ok (.getfield 12, 3) := by decide +kernel
theorem dX2_bellsToRing_4 : decode cX2_bellsToRing 4 = .ok (.aload_n 0, 1) := by decide +kernel
theorem dX2_bellsToRing_5 : decode cX2_bellsToRing 5 = .ok (.getfield 25, 3) := by decide +kernel
theorem dX2_bellsToRing_8 : decode cX2_bellsToRing 8 = .ok (.invokevirtual 28, 3) := by decide +kernel
theorem dX2_bellsToRing_11 : decode cX2_bellsToRing 11 = .ok (.iconst 1, 1) := by decide +kernel
theorem dX2_bellsToRing_12 : decode cX2_bellsToRing 12 = .ok (.istore_n 1, 1) := by decide +kernel
theorem dX2_bellsToRing_13 : decode cX2_bellsToRing 13 = .ok (.iload_n 1, 1) := by decide +kernel
theorem dX2_bellsToRing_14 : decode cX2_bellsToRing 14 = .ok (.bipush 60, 2) := by decide +kernel
theorem dX2_bellsToRing_16 : decode cX2_bellsToRing 16 = .ok (.if_icmp .gt 26, 3) := by decide +kernel
theorem dX2_bellsToRing_19 : decode cX2_bellsToRing 19 = .ok (.aload_n 0, 1) := by decide +kernel
theorem dX2_bellsToRing_20 : decode cX2_bellsToRing 20 = .ok (.getfield 12, 3) := by decide +kernel
theorem dX2_bellsToRing_23 : decode cX2_bellsToRing 23 = .ok (.invokevirtual 43, 3) := by decide +kernel
theorem dX2_bellsToRing_26 : decode cX2_bellsToRing 26 = .ok (.pop, 1) := by decide +kernel
theorem dX2_bellsToRing_27 : decode cX2_bellsToRing 27 = .ok (.aload_n 0, 1) := by decide +kernel
theorem dX2_bellsToRing_28 : decode cX2_bellsToRing 28 = .ok (.invokevirtual 57, 3) := by decide +kernel
theorem dX2_bellsToRing_31 : decode cX2_bellsToRing 31 = .ok (.ifCond .eq 5, 3) := by decide +kernel
theorem dX2_bellsToRing_34 : decode cX2_bellsToRing 34 = .ok (.iload_n 1, 1) := by decide +kernel
theorem dX2_bellsToRing_35 : decode cX2_bellsToRing 35 = .ok (.ireturn, 1) := by decide +kernel
theorem dX2_bellsToRing_36 : decode cX2_bellsToRing 36 = .ok (.iinc 1 1, 3) := by decide +kernel
theorem dX2_bellsToRing_39 : decode cX2_bellsToRing 39 = .ok (.goto (-26), 3) := by decide +kernel
theorem dX2_bellsToRing_42 : decode cX2_bellsToRing 42 = .ok (.ldc 56, 2) := by decide +kernel
theorem dX2_bellsToRing_44 : decode cX2_bellsToRing 44 = .ok (.ireturn, 1) := by decide +kernel
theorem dX2_findHired_0 : decode cX2_findHired 0 = .ok (.iconst 0, 1) := by decide +kernel
theorem dX2_findHired_1 : decode cX2_findHired 1 = .ok (.istore 4, 2) := by decide +kernel
theorem dX2_findHired_3 : decode cX2_findHired 3 = .ok (.iload 4, 2) := by decide +kernel
theorem dX2_findHired_5 : decode cX2_findHired 5 = .ok (.bipush 60, 2) := by decide +kernel
theorem dX2_findHired_7 : decode cX2_findHired 7 = .ok (.if_icmp .gt 98, 3) := by decide +kernel
theorem dX2_findHired_10 : decode cX2_findHired 10 = .ok (.iload 4, 2) := by decide +kernel
theorem dX2_findHired_12 : decode cX2_findHired 12 = .ok (.ifCond .ne 7, 3) := by decide +kernel
theorem dX2_findHired_15 : decode cX2_findHired 15 = .ok (.iconst 1, 1) := by decide +kernel
theorem dX2_findHired_16 : decode cX2_findHired 16 = .ok (.goto 10, 3) := by decide +kernel
theorem dX2_findHired_19 : decode cX2_findHired 19 = .ok (.aload_n 0, 1) := by decide +kernel
theorem dX2_findHired_20 : decode cX2_findHired 20 = .ok (.getfield 25, 3) := by decide +kernel
theorem dX2_findHired_23 : decode cX2_findHired 23 = .ok (.getfield 61, 3) := by decide +kernel
theorem dX2_findHired_26 : decode cX2_findHired 26 = .ok (.istore 5, 2) := by decide +kernel
theorem dX2_findHired_28 : decode cX2_findHired 28 = .ok (.iconst 0, 1) := by decide +kernel
theorem dX2_findHired_29 : decode cX2_findHired 29 = .ok (.istore 6, 2) := by decide +kernel
theorem dX2_findHired_31 : decode cX2_findHired 31 = .ok (.iload 6, 2) := by decide +kernel
theorem dX2_findHired_33 : decode cX2_findHired 33 = .ok (.iload 5, 2) := by decide +kernel
theorem dX2_findHired_35 : decode cX2_findHired 35 = .ok (.if_icmp .ge 64, 3) := by decide +kernel
theorem dX2_findHired_38 : decode cX2_findHired 38 = .ok (.iload_n 3, 1) := by decide +kernel
theorem dX2_findHired_39 : decode cX2_findHired 39 = .ok (.ifCond .eq 18, 3) := by decide +kernel
theorem dX2_findHired_42 : decode cX2_findHired 42 = .ok (.iload 4, 2) := by decide +kernel
theorem dX2_findHired_44 : decode cX2_findHired 44 = .ok (.ifCond .le 13, 3) := by decide +kernel
theorem dX2_findHired_47 : decode cX2_findHired 47 = .ok (.iload 6, 2) := by decide +kernel
theorem dX2_findHired_49 : decode cX2_findHired 49 = .ok (.iload_n 1, 1) := by decide +kernel
theorem dX2_findHired_50 : decode cX2_findHired 50 = .ok (.if_icmp .ne 7, 3) := by decide +kernel
theorem dX2_findHired_53 : decode cX2_findHired 53 = .ok (.iconst 1, 1) := by decide +kernel
theorem dX2_findHired_54 : decode cX2_findHired 54 = .ok (.goto 4, 3) := by decide +kernel
theorem dX2_findHired_57 : decode cX2_findHired 57 = .ok (.iconst 0, 1) := by decide +kernel
theorem dX2_findHired_58 : decode cX2_findHired 58 = .ok (.istore 7, 2) := by decide +kernel
theorem dX2_findHired_60 : decode cX2_findHired 60 = .ok (.iload 7, 2) := by decide +kernel
theorem dX2_findHired_62 : decode cX2_findHired 62 = .ok (.ifCond .ne 31, 3) := by decide +kernel
theorem dX2_findHired_65 : decode cX2_findHired 65 = .ok (.aload_n 0, 1) := by decide +kernel
theorem dX2_findHired_66 : decode cX2_findHired 66 = .ok (.iload_n 1, 1) := by decide +kernel
theorem dX2_findHired_67 : decode cX2_findHired 67 = .ok (.iload_n 2, 1) := by decide +kernel
theorem dX2_findHired_68 : decode cX2_findHired 68 = .ok (.iload_n 3, 1) := by decide +kernel
theorem dX2_findHired_69 : decode cX2_findHired 69 = .ok (.iload 4, 2) := by decide +kernel
theorem dX2_findHired_71 : decode cX2_findHired 71 = .ok (.iload 6, 2) := by decide +kernel
theorem dX2_findHired_73 : decode cX2_findHired 73 = .ok (.invokevirtual 65, 3) := by decide +kernel
theorem dX2_findHired_76 : decode cX2_findHired 76 = .ok (.ifCond .eq 17, 3) := by decide +kernel
theorem dX2_findHired_79 : decode cX2_findHired 79 = .ok (.aload_n 0, 1) := by decide +kernel
theorem dX2_findHired_80 : decode cX2_findHired 80 = .ok (.iload 4, 2) := by decide +kernel
theorem dX2_findHired_82 : decode cX2_findHired 82 = .ok (.putfield 69, 3) := by decide +kernel
theorem dX2_findHired_85 : decode cX2_findHired 85 = .ok (.aload_n 0, 1) := by decide +kernel
theorem dX2_findHired_86 : decode cX2_findHired 86 = .ok (.iload 6, 2) := by decide +kernel
theorem dX2_findHired_88 : decode cX2_findHired 88 = .ok (.putfield 72, 3) := by decide +kernel
theorem dX2_findHired_91 : decode cX2_findHired 91 = .ok (.iconst 1, 1) := by decide +kernel
theorem dX2_findHired_92 : decode cX2_findHired 92 = .ok (.ireturn, 1) := by decide +kernel
theorem dX2_findHired_93 : decode cX2_findHired 93 = .ok (.iinc 6 1, 3) := by decide +kernel
theorem dX2_findHired_96 : decode cX2_findHired 96 = .ok (.goto (-65), 3) := by decide +kernel
theorem dX2_findHired_99 : decode cX2_findHired 99 = .ok (.iinc 4 1, 3) := by decide +kernel
theorem dX2_findHired_102 : decode cX2_findHired 102 = .ok (.goto (-99), 3) := by decide +kernel
theorem dX2_findHired_105 : decode cX2_findHired 105 = .ok (.iconst 0, 1) := by decide +kernel
theorem dX2_findHired_106 : decode cX2_findHired 106 = .ok (.ireturn, 1) := by decide +kernel
theorem dX2_doorToShut_0 : decode cX2_doorToShut 0 = .ok (.aload_n 0, 1) := by decide +kernel
theorem dX2_doorToShut_1 : decode cX2_doorToShut 1 = .ok (.getfield 12, 3) := by decide +kernel
theorem dX2_doorToShut_4 : decode cX2_doorToShut 4 = .ok (.aload_n 0, 1) := by decide +kernel
theorem dX2_doorToShut_5 : decode cX2_doorToShut 5 = .ok (.getfield 25, 3) := by decide +kernel
theorem dX2_doorToShut_8 : decode cX2_doorToShut 8 = .ok (.invokevirtual 28, 3) := by decide +kernel
theorem dX2_doorToShut_11 : decode cX2_doorToShut 11 = .ok (.aload_n 0, 1) := by decide +kernel
theorem dX2_doorToShut_12 : decode cX2_doorToShut 12 = .ok (.iload_n 1, 1) := by decide +kernel
theorem dX2_doorToShut_13 : decode cX2_doorToShut 13 = .ok (.iload_n 2, 1) := by decide +kernel
theorem dX2_doorToShut_14 : decode cX2_doorToShut 14 = .ok (.iload_n 3, 1) := by decide +kernel
theorem dX2_doorToShut_15 : decode cX2_doorToShut 15 = .ok (.invokevirtual 75, 3) := by decide +kernel
theorem dX2_doorToShut_18 : decode cX2_doorToShut 18 = .ok (.ifCond .ne 5, 3) := by decide +kernel
theorem dX2_doorToShut_21 : decode cX2_doorToShut 21 = .ok (.iconst (-1), 1) := by decide +kernel
theorem dX2_doorToShut_22 : decode cX2_doorToShut 22 = .ok (.ireturn, 1) := by decide +kernel
theorem dX2_doorToShut_23 : decode cX2_doorToShut 23 = .ok (.iconst 0, 1) := by decide +kernel
theorem dX2_doorToShut_24 : decode cX2_doorToShut 24 = .ok (.istore 4, 2) := by decide +kernel
theorem dX2_doorToShut_26 : decode cX2_doorToShut 26 = .ok (.iload 4, 2) := by decide +kernel
theorem dX2_doorToShut_28 : decode cX2_doorToShut 28 = .ok (.aload_n 0, 1) := by decide +kernel
theorem dX2_doorToShut_29 : decode cX2_doorToShut 29 = .ok (.getfield 25, 3) := by decide +kernel
theorem dX2_doorToShut_32 : decode cX2_doorToShut 32 = .ok (.getfield 61, 3) := by decide +kernel
theorem dX2_doorToShut_35 : decode cX2_doorToShut 35 = .ok (.if_icmp .ge 71, 3) := by decide +kernel
theorem dX2_doorToShut_38 : decode cX2_doorToShut 38 = .ok (.iload 4, 2) := by decide +kernel
theorem dX2_doorToShut_40 : decode cX2_doorToShut 40 = .ok (.iconst 1, 1) := by decide +kernel
theorem dX2_doorToShut_41 : decode cX2_doorToShut 41 = .ok (.iadd, 1) := by decide +kernel
theorem dX2_doorToShut_42 : decode cX2_doorToShut 42 = .ok (.istore 5, 2) := by decide +kernel
theorem dX2_doorToShut_44 : decode cX2_doorToShut 44 = .ok (.iload 5, 2) := by decide +kernel
theorem dX2_doorToShut_46 : decode cX2_doorToShut 46 = .ok (.aload_n 0, 1) := by decide +kernel
theorem dX2_doorToShut_47 : decode cX2_doorToShut 47 = .ok (.getfield 25, 3) := by decide +kernel
theorem dX2_doorToShut_50 : decode cX2_doorToShut 50 = .ok (.getfield 61, 3) := by decide +kernel
theorem dX2_doorToShut_53 : decode cX2_doorToShut 53 = .ok (.if_icmp .ge 47, 3) := by decide +kernel
theorem dX2_doorToShut_56 : decode cX2_doorToShut 56 = .ok (.aload_n 0, 1) := by decide +kernel
theorem dX2_doorToShut_57 : decode cX2_doorToShut 57 = .ok (.getfield 25, 3) := by decide +kernel
theorem dX2_doorToShut_60 : decode cX2_doorToShut 60 = .ok (.iload 4, 2) := by decide +kernel
theorem dX2_doorToShut_62 : decode cX2_doorToShut 62 = .ok (.iload 5, 2) := by decide +kernel
theorem dX2_doorToShut_64 : decode cX2_doorToShut 64 = .ok (.invokevirtual 79, 3) := by decide +kernel
theorem dX2_doorToShut_67 : decode cX2_doorToShut 67 = .ok (.iconst 1, 1) := by decide +kernel
theorem dX2_doorToShut_68 : decode cX2_doorToShut 68 = .ok (.if_icmp .ne 26, 3) := by decide +kernel
theorem dX2_doorToShut_71 : decode cX2_doorToShut 71 = .ok (.aload_n 0, 1) := by decide +kernel
theorem dX2_doorToShut_72 : decode cX2_doorToShut 72 = .ok (.iload 4, 2) := by decide +kernel
theorem dX2_doorToShut_74 : decode cX2_doorToShut 74 = .ok (.iload 5, 2) := by decide +kernel
theorem dX2_doorToShut_76 : decode cX2_doorToShut 76 = .ok (.iload_n 1, 1) := by decide +kernel
theorem dX2_doorToShut_77 : decode cX2_doorToShut 77 = .ok (.iload_n 2, 1) := by decide +kernel
theorem dX2_doorToShut_78 : decode cX2_doorToShut 78 = .ok (.iload_n 3, 1) := by decide +kernel
theorem dX2_doorToShut_79 : decode cX2_doorToShut 79 = .ok (.invokevirtual 82, 3) := by decide +kernel
theorem dX2_doorToShut_82 : decode cX2_doorToShut 82 = .ok (.ifCond .eq 12, 3) := by decide +kernel
theorem dX2_doorToShut_85 : decode cX2_doorToShut 85 = .ok (.bipush 6, 2) := by decide +kernel
theorem dX2_doorToShut_87 : decode cX2_doorToShut 87 = .ok (.iload 4, 2) := by decide +kernel
theorem dX2_doorToShut_89 : decode cX2_doorToShut 89 = .ok (.imul, 1) := by decide +kernel
theorem dX2_doorToShut_90 : decode cX2_doorToShut 90 = .ok (.iload 5, 2) := by decide +kernel
theorem dX2_doorToShut_92 : decode cX2_doorToShut 92 = .ok (.iadd, 1) := by decide +kernel
theorem dX2_doorToShut_93 : decode cX2_doorToShut 93 = .ok (.ireturn, 1) := by decide +kernel
theorem dX2_doorToShut_94 : decode cX2_doorToShut 94 = .ok (.iinc 5 1, 3) := by decide +kernel
theorem dX2_doorToShut_97 : decode cX2_doorToShut 97 = .ok (.goto (-53), 3) := by decide +kernel
theorem dX2_doorToShut_100 : decode cX2_doorToShut 100 = .ok (.iinc 4 1, 3) := by decide +kernel
theorem dX2_doorToShut_103 : decode cX2_doorToShut 103 = .ok (.goto (-77), 3) := by decide +kernel
theorem dX2_doorToShut_106 : decode cX2_doorToShut 106 = .ok (.ldc 56, 2) := by decide +kernel
theorem dX2_doorToShut_108 : decode cX2_doorToShut 108 = .ok (.ireturn, 1) := by decide +kernel
theorem dX2_findBeginnings_0 : decode cX2_findBeginnings 0 = .ok (.aload_n 0, 1) := by decide +kernel
theorem dX2_findBeginnings_1 : decode cX2_findBeginnings 1 = .ok (.iconst 0, 1) := by decide +kernel
theorem dX2_findBeginnings_2 : decode cX2_findBeginnings 2 = .ok (.putfield 86, 3) := by decide +kernel
theorem dX2_findBeginnings_5 : decode cX2_findBeginnings 5 = .ok (.aload_n 0, 1) := by decide +kernel
theorem dX2_findBeginnings_6 : decode cX2_findBeginnings 6 = .ok (.iload_n 1, 1) := by decide +kernel
theorem dX2_findBeginnings_7 : decode cX2_findBeginnings 7 = .ok (.invokevirtual 89, 3) := by decide +kernel
theorem dX2_findBeginnings_10 : decode cX2_findBeginnings 10 = .ok (.aload_n 0, 1) := by decide +kernel
theorem dX2_findBeginnings_11 : decode cX2_findBeginnings 11 = .ok (.getfield 12, 3) := by decide +kernel
theorem dX2_findBeginnings_14 : decode cX2_findBeginnings 14 = .ok (.aload_n 0, 1) := by decide +kernel
theorem dX2_findBeginnings_15 : decode cX2_findBeginnings 15 = .ok (.getfield 25, 3) := by decide +kernel
theorem dX2_findBeginnings_18 : decode cX2_findBeginnings 18 = .ok (.invokevirtual 28, 3) := by decide +kernel
theorem dX2_findBeginnings_21 : decode cX2_findBeginnings 21 = .ok (.iconst 1, 1) := by decide +kernel
theorem dX2_findBeginnings_22 : decode cX2_findBeginnings 22 = .ok (.istore_n 2, 1) := by decide +kernel
theorem dX2_findBeginnings_23 : decode cX2_findBeginnings 23 = .ok (.iconst 0, 1) := by decide +kernel
theorem dX2_findBeginnings_24 : decode cX2_findBeginnings 24 = .ok (.istore_n 3, 1) := by decide +kernel
theorem dX2_findBeginnings_25 : decode cX2_findBeginnings 25 = .ok (.iload_n 3, 1) := by decide +kernel
theorem dX2_findBeginnings_26 : decode cX2_findBeginnings 26 = .ok (.aload_n 0, 1) := by decide +kernel
theorem dX2_findBeginnings_27 : decode cX2_findBeginnings 27 = .ok (.getfield 25, 3) := by decide +kernel
theorem dX2_findBeginnings_30 : decode cX2_findBeginnings 30 = .ok (.getfield 92, 3) := by decide +kernel
theorem dX2_findBeginnings_33 : decode cX2_findBeginnings 33 = .ok (.if_icmp .ge 19, 3) := by decide +kernel
theorem dX2_findBeginnings_36 : decode cX2_findBeginnings 36 = .ok (.iload_n 2, 1) := by decide +kernel
theorem dX2_findBeginnings_37 : decode cX2_findBeginnings 37 = .ok (.aload_n 0, 1) := by decide +kernel
theorem dX2_findBeginnings_38 : decode cX2_findBeginnings 38 = .ok (.getfield 25, 3) := by decide +kernel
theorem dX2_findBeginnings_41 : decode cX2_findBeginnings 41 = .ok (.getfield 61, 3) := by decide +kernel
theorem dX2_findBeginnings_44 : decode cX2_findBeginnings 44 = .ok (.imul, 1) := by decide +kernel
theorem dX2_findBeginnings_45 : decode cX2_findBeginnings 45 = .ok (.istore_n 2, 1) := by decide +kernel
theorem dX2_findBeginnings_46 : decode cX2_findBeginnings 46 = .ok (.iinc 3 1, 3) := by decide +kernel
theorem dX2_findBeginnings_49 : decode cX2_findBeginnings 49 = .ok (.goto (-24), 3) := by decide +kernel
theorem dX2_findBeginnings_52 : decode cX2_findBeginnings 52 = .ok (.iconst 0, 1) := by decide +kernel
theorem dX2_findBeginnings_53 : decode cX2_findBeginnings 53 = .ok (.istore_n 3, 1) := by decide +kernel
theorem dX2_findBeginnings_54 : decode cX2_findBeginnings 54 = .ok (.iload_n 3, 1) := by decide +kernel
theorem dX2_findBeginnings_55 : decode cX2_findBeginnings 55 = .ok (.iload_n 2, 1) := by decide +kernel
theorem dX2_findBeginnings_56 : decode cX2_findBeginnings 56 = .ok (.if_icmp .ge 42, 3) := by decide +kernel
theorem dX2_findBeginnings_59 : decode cX2_findBeginnings 59 = .ok (.aload_n 0, 1) := by decide +kernel
theorem dX2_findBeginnings_60 : decode cX2_findBeginnings 60 = .ok (.iload_n 3, 1) := by decide +kernel
theorem dX2_findBeginnings_61 : decode cX2_findBeginnings 61 = .ok (.invokevirtual 95, 3) := by decide +kernel
theorem dX2_findBeginnings_64 : decode cX2_findBeginnings 64 = .ok (.ifCond .eq 28, 3) := by decide +kernel
theorem dX2_findBeginnings_67 : decode cX2_findBeginnings 67 = .ok (.aload_n 0, 1) := by decide +kernel
theorem dX2_findBeginnings_68 : decode cX2_findBeginnings 68 = .ok (.getfield 12, 3) := by decide +kernel
theorem dX2_findBeginnings_71 : decode cX2_findBeginnings 71 = .ok (.iconst 0, 1) := by decide +kernel
theorem dX2_findBeginnings_72 : decode cX2_findBeginnings 72 = .ok (.putfield 99, 3) := by decide +kernel
theorem dX2_findBeginnings_75 : decode cX2_findBeginnings 75 = .ok (.aload_n 0, 1) := by decide +kernel
theorem dX2_findBeginnings_76 : decode cX2_findBeginnings 76 = .ok (.iload_n 1, 1) := by decide +kernel
theorem dX2_findBeginnings_77 : decode cX2_findBeginnings 77 = .ok (.invokevirtual 32, 3) := by decide +kernel
theorem dX2_findBeginnings_80 : decode cX2_findBeginnings 80 = .ok (.aload_n 0, 1) := by decide +kernel
theorem dX2_findBeginnings_81 : decode cX2_findBeginnings 81 = .ok (.invokevirtual 57, 3) := by decide +kernel
theorem dX2_findBeginnings_84 : decode cX2_findBeginnings 84 = .ok (.ifCond .eq 8, 3) := by decide +kernel
theorem dX2_findBeginnings_87 : decode cX2_findBeginnings 87 = .ok (.aload_n 0, 1) := by decide +kernel
theorem dX2_findBeginnings_88 : decode cX2_findBeginnings 88 = .ok (.iload_n 3, 1) := by decide +kernel
theorem dX2_findBeginnings_89 : decode cX2_findBeginnings 89 = .ok (.invokevirtual 102, 3) := by decide +kernel
theorem dX2_findBeginnings_92 : decode cX2_findBeginnings 92 = .ok (.iinc 3 1, 3) := by decide +kernel
theorem dX2_findBeginnings_95 : decode cX2_findBeginnings 95 = .ok (.goto (-41), 3) := by decide +kernel
theorem dX2_findBeginnings_98 : decode cX2_findBeginnings 98 = .ok (.return_, 1) := by decide +kernel
theorem dX2_ringTimes_0 : decode cX2_ringTimes 0 = .ok (.iconst 0, 1) := by decide +kernel
theorem dX2_ringTimes_1 : decode cX2_ringTimes 1 = .ok (.istore_n 2, 1) := by decide +kernel
theorem dX2_ringTimes_2 : decode cX2_ringTimes 2 = .ok (.iload_n 2, 1) := by decide +kernel
theorem dX2_ringTimes_3 : decode cX2_ringTimes 3 = .ok (.iload_n 1, 1) := by decide +kernel
theorem dX2_ringTimes_4 : decode cX2_ringTimes 4 = .ok (.if_icmp .ge 17, 3) := by decide +kernel
theorem dX2_ringTimes_7 : decode cX2_ringTimes 7 = .ok (.aload_n 0, 1) := by decide +kernel
theorem dX2_ringTimes_8 : decode cX2_ringTimes 8 = .ok (.getfield 12, 3) := by decide +kernel
theorem dX2_ringTimes_11 : decode cX2_ringTimes 11 = .ok (.invokevirtual 43, 3) := by decide +kernel
theorem dX2_ringTimes_14 : decode cX2_ringTimes 14 = .ok (.pop, 1) := by decide +kernel
theorem dX2_ringTimes_15 : decode cX2_ringTimes 15 = .ok (.iinc 2 1, 3) := by decide +kernel
theorem dX2_ringTimes_18 : decode cX2_ringTimes 18 = .ok (.goto (-16), 3) := by decide +kernel
theorem dX2_ringTimes_21 : decode cX2_ringTimes 21 = .ok (.return_, 1) := by decide +kernel
theorem dX2_allAsNow_0 : decode cX2_allAsNow 0 = .ok (.iconst 0, 1) := by decide +kernel
theorem dX2_allAsNow_1 : decode cX2_allAsNow 1 = .ok (.istore_n 1, 1) := by decide +kernel
theorem dX2_allAsNow_2 : decode cX2_allAsNow 2 = .ok (.iload_n 1, 1) := by decide +kernel
theorem dX2_allAsNow_3 : decode cX2_allAsNow 3 = .ok (.aload_n 0, 1) := by decide +kernel
theorem dX2_allAsNow_4 : decode cX2_allAsNow 4 = .ok (.getfield 25, 3) := by decide +kernel
theorem dX2_allAsNow_7 : decode cX2_allAsNow 7 = .ok (.getfield 92, 3) := by decide +kernel
theorem dX2_allAsNow_10 : decode cX2_allAsNow 10 = .ok (.if_icmp .ge 32, 3) := by decide +kernel
theorem dX2_allAsNow_13 : decode cX2_allAsNow 13 = .ok (.aload_n 0, 1) := by decide +kernel
theorem dX2_allAsNow_14 : decode cX2_allAsNow 14 = .ok (.getfield 12, 3) := by decide +kernel
theorem dX2_allAsNow_17 : decode cX2_allAsNow 17 = .ok (.getfield 36, 3) := by decide +kernel
theorem dX2_allAsNow_20 : decode cX2_allAsNow 20 = .ok (.iload_n 1, 1) := by decide +kernel
theorem dX2_allAsNow_21 : decode cX2_allAsNow 21 = .ok (.iaload, 1) := by decide +kernel
theorem dX2_allAsNow_22 : decode cX2_allAsNow 22 = .ok (.aload_n 0, 1) := by decide +kernel
theorem dX2_allAsNow_23 : decode cX2_allAsNow 23 = .ok (.getfield 25, 3) := by decide +kernel
theorem dX2_allAsNow_26 : decode cX2_allAsNow 26 = .ok (.getfield 36, 3) := by decide +kernel
theorem dX2_allAsNow_29 : decode cX2_allAsNow 29 = .ok (.iload_n 1, 1) := by decide +kernel
theorem dX2_allAsNow_30 : decode cX2_allAsNow 30 = .ok (.iaload, 1) := by decide +kernel
theorem dX2_allAsNow_31 : decode cX2_allAsNow 31 = .ok (.if_icmp .eq 5, 3) := by decide +kernel
theorem dX2_allAsNow_34 : decode cX2_allAsNow 34 = .ok (.iconst 0, 1) := by decide +kernel
theorem dX2_allAsNow_35 : decode cX2_allAsNow 35 = .ok (.ireturn, 1) := by decide +kernel
theorem dX2_allAsNow_36 : decode cX2_allAsNow 36 = .ok (.iinc 1 1, 3) := by decide +kernel
theorem dX2_allAsNow_39 : decode cX2_allAsNow 39 = .ok (.goto (-37), 3) := by decide +kernel
theorem dX2_allAsNow_42 : decode cX2_allAsNow 42 = .ok (.iconst 1, 1) := by decide +kernel
theorem dX2_allAsNow_43 : decode cX2_allAsNow 43 = .ok (.ireturn, 1) := by decide +kernel
theorem dX2_succeeds_0 : decode cX2_succeeds 0 = .ok (.aload_n 0, 1) := by decide +kernel
theorem dX2_succeeds_1 : decode cX2_succeeds 1 = .ok (.getfield 12, 3) := by decide +kernel
theorem dX2_succeeds_4 : decode cX2_succeeds 4 = .ok (.aload_n 0, 1) := by decide +kernel
theorem dX2_succeeds_5 : decode cX2_succeeds 5 = .ok (.getfield 25, 3) := by decide +kernel
theorem dX2_succeeds_8 : decode cX2_succeeds 8 = .ok (.invokevirtual 28, 3) := by decide +kernel
theorem dX2_succeeds_11 : decode cX2_succeeds 11 = .ok (.aload_n 0, 1) := by decide +kernel
theorem dX2_succeeds_12 : decode cX2_succeeds 12 = .ok (.getfield 12, 3) := by decide +kernel
theorem dX2_succeeds_15 : decode cX2_succeeds 15 = .ok (.iload 4, 2) := by decide +kernel
theorem dX2_succeeds_17 : decode cX2_succeeds 17 = .ok (.iload 5, 2) := by decide +kernel
theorem dX2_succeeds_19 : decode cX2_succeeds 19 = .ok (.invokevirtual 105, 3) := by decide +kernel
theorem dX2_succeeds_22 : decode cX2_succeeds 22 = .ok (.aload_n 0, 1) := by decide +kernel
theorem dX2_succeeds_23 : decode cX2_succeeds 23 = .ok (.iload_n 2, 1) := by decide +kernel
theorem dX2_succeeds_24 : decode cX2_succeeds 24 = .ok (.invokevirtual 32, 3) := by decide +kernel
theorem dX2_succeeds_27 : decode cX2_succeeds 27 = .ok (.iconst 0, 1) := by decide +kernel
theorem dX2_succeeds_28 : decode cX2_succeeds 28 = .ok (.istore 6, 2) := by decide +kernel
theorem dX2_succeeds_30 : decode cX2_succeeds 30 = .ok (.iload 6, 2) := by decide +kernel
theorem dX2_succeeds_32 : decode cX2_succeeds 32 = .ok (.aload_n 0, 1) := by decide +kernel
theorem dX2_succeeds_33 : decode cX2_succeeds 33 = .ok (.getfield 25, 3) := by decide +kernel
theorem dX2_succeeds_36 : decode cX2_succeeds 36 = .ok (.getfield 92, 3) := by decide +kernel
theorem dX2_succeeds_39 : decode cX2_succeeds 39 = .ok (.if_icmp .ge 63, 3) := by decide +kernel
theorem dX2_succeeds_42 : decode cX2_succeeds 42 = .ok (.aload_n 0, 1) := by decide +kernel
theorem dX2_succeeds_43 : decode cX2_succeeds 43 = .ok (.getfield 12, 3) := by decide +kernel
theorem dX2_succeeds_46 : decode cX2_succeeds 46 = .ok (.getfield 36, 3) := by decide +kernel
theorem dX2_succeeds_49 : decode cX2_succeeds 49 = .ok (.iload 6, 2) := by decide +kernel
theorem dX2_succeeds_51 : decode cX2_succeeds 51 = .ok (.iaload, 1) := by decide +kernel
theorem dX2_succeeds_52 : decode cX2_succeeds 52 = .ok (.iload_n 1, 1) := by decide +kernel
theorem dX2_succeeds_53 : decode cX2_succeeds 53 = .ok (.if_icmp .ne 7, 3) := by decide +kernel
theorem dX2_succeeds_56 : decode cX2_succeeds 56 = .ok (.iconst 1, 1) := by decide +kernel
theorem dX2_succeeds_57 : decode cX2_succeeds 57 = .ok (.goto 4, 3) := by decide +kernel
theorem dX2_succeeds_60 : decode cX2_succeeds 60 = .ok (.iconst 0, 1) := by decide +kernel
theorem dX2_succeeds_61 : decode cX2_succeeds 61 = .ok (.istore 7, 2) := by decide +kernel
theorem dX2_succeeds_63 : decode cX2_succeeds 63 = .ok (.iload_n 3, 1) := by decide +kernel
theorem dX2_succeeds_64 : decode cX2_succeeds 64 = .ok (.ifCond .eq 11, 3) := by decide +kernel
theorem dX2_succeeds_67 : decode cX2_succeeds 67 = .ok (.iload 7, 2) := by decide +kernel
theorem dX2_succeeds_69 : decode cX2_succeeds 69 = .ok (.ifCond .eq 27, 3) := by decide +kernel
theorem dX2_succeeds_72 : decode cX2_succeeds 72 = .ok (.goto 22, 3) := by decide +kernel
theorem dX2_succeeds_75 : decode cX2_succeeds 75 = .ok (.iload 7, 2) := by decide +kernel
theorem dX2_succeeds_77 : decode cX2_succeeds 77 = .ok (.ifCond .ne 19, 3) := by decide +kernel
theorem dX2_succeeds_80 : decode cX2_succeeds 80 = .ok (.aload_n 0, 1) := by decide +kernel
theorem dX2_succeeds_81 : decode cX2_succeeds 81 = .ok (.getfield 25, 3) := by decide +kernel
theorem dX2_succeeds_84 : decode cX2_succeeds 84 = .ok (.getfield 109, 3) := by decide +kernel
theorem dX2_succeeds_87 : decode cX2_succeeds 87 = .ok (.iload 6, 2) := by decide +kernel
theorem dX2_succeeds_89 : decode cX2_succeeds 89 = .ok (.iaload, 1) := by decide +kernel
theorem dX2_succeeds_90 : decode cX2_succeeds 90 = .ok (.iconst 4, 1) := by decide +kernel
theorem dX2_succeeds_91 : decode cX2_succeeds 91 = .ok (.if_icmp .eq 5, 3) := by decide +kernel
theorem dX2_succeeds_94 : decode cX2_succeeds 94 = .ok (.iconst 0, 1) := by decide +kernel
theorem dX2_succeeds_95 : decode cX2_succeeds 95 = .ok (.ireturn, 1) := by decide +kernel
theorem dX2_succeeds_96 : decode cX2_succeeds 96 = .ok (.iinc 6 1, 3) := by decide +kernel
theorem dX2_succeeds_99 : decode cX2_succeeds 99 = .ok (.goto (-69), 3) := by decide +kernel
theorem dX2_succeeds_102 : decode cX2_succeeds 102 = .ok (.iconst 1, 1) := by decide +kernel
theorem dX2_succeeds_103 : decode cX2_succeeds 103 = .ok (.ireturn, 1) := by decide +kernel
theorem dX2_partedBy_0 : decode cX2_partedBy 0 = .ok (.aload_n 0, 1) := by decide +kernel
theorem dX2_partedBy_1 : decode cX2_partedBy 1 = .ok (.getfield 12, 3) := by decide +kernel
theorem dX2_partedBy_4 : decode cX2_partedBy 4 = .ok (.aload_n 0, 1) := by decide +kernel
theorem dX2_partedBy_5 : decode cX2_partedBy 5 = .ok (.getfield 25, 3) := by decide +kernel
theorem dX2_partedBy_8 : decode cX2_partedBy 8 = .ok (.invokevirtual 28, 3) := by decide +kernel
theorem dX2_partedBy_11 : decode cX2_partedBy 11 = .ok (.aload_n 0, 1) := by decide +kernel
theorem dX2_partedBy_12 : decode cX2_partedBy 12 = .ok (.getfield 12, 3) := by decide +kernel
theorem dX2_partedBy_15 : decode cX2_partedBy 15 = .ok (.iload_n 1, 1) := by decide +kernel
theorem dX2_partedBy_16 : decode cX2_partedBy 16 = .ok (.iload_n 2, 1) := by decide +kernel
theorem dX2_partedBy_17 : decode cX2_partedBy 17 = .ok (.iconst 0, 1) := by decide +kernel
theorem dX2_partedBy_18 : decode cX2_partedBy 18 = .ok (.invokevirtual 112, 3) := by decide +kernel
theorem dX2_partedBy_21 : decode cX2_partedBy 21 = .ok (.aload_n 0, 1) := by decide +kernel
theorem dX2_partedBy_22 : decode cX2_partedBy 22 = .ok (.iload_n 3, 1) := by decide +kernel
theorem dX2_partedBy_23 : decode cX2_partedBy 23 = .ok (.iload 4, 2) := by decide +kernel
theorem dX2_partedBy_25 : decode cX2_partedBy 25 = .ok (.iload 5, 2) := by decide +kernel
theorem dX2_partedBy_27 : decode cX2_partedBy 27 = .ok (.invokevirtual 75, 3) := by decide +kernel
theorem dX2_partedBy_30 : decode cX2_partedBy 30 = .ok (.ifCond .ne 7, 3) := by decide +kernel
theorem dX2_partedBy_33 : decode cX2_partedBy 33 = .ok (.iconst 1, 1) := by decide +kernel
theorem dX2_partedBy_34 : decode cX2_partedBy 34 = .ok (.goto 4, 3) := by decide +kernel
theorem dX2_partedBy_37 : decode cX2_partedBy 37 = .ok (.iconst 0, 1) := by decide +kernel
theorem dX2_partedBy_38 : decode cX2_partedBy 38 = .ok (.ireturn, 1) := by decide +kernel
theorem dX2_meet_0 : decode cX2_meet 0 = .ok (.iconst 0, 1) := by decide +kernel
theorem dX2_meet_1 : decode cX2_meet 1 = .ok (.istore 4, 2) := by decide +kernel
theorem dX2_meet_3 : decode cX2_meet 3 = .ok (.iload 4, 2) := by decide +kernel
theorem dX2_meet_5 : decode cX2_meet 5 = .ok (.iload_n 3, 1) := by decide +kernel
theorem dX2_meet_6 : decode cX2_meet 6 = .ok (.if_icmp .ge 40, 3) := by decide +kernel
theorem dX2_meet_9 : decode cX2_meet 9 = .ok (.aload_n 0, 1) := by decide +kernel
theorem dX2_meet_10 : decode cX2_meet 10 = .ok (.getfield 12, 3) := by decide +kernel
theorem dX2_meet_13 : decode cX2_meet 13 = .ok (.invokevirtual 43, 3) := by decide +kernel
theorem dX2_meet_16 : decode cX2_meet 16 = .ok (.pop, 1) := by decide +kernel
theorem dX2_meet_17 : decode cX2_meet 17 = .ok (.aload_n 0, 1) := by decide +kernel
theorem dX2_meet_18 : decode cX2_meet 18 = .ok (.getfield 12, 3) := by decide +kernel
theorem dX2_meet_21 : decode cX2_meet 21 = .ok (.getfield 36, 3) := by decide +kernel
theorem dX2_meet_24 : decode cX2_meet 24 = .ok (.iload_n 1, 1) := by decide +kernel
theorem dX2_meet_25 : decode cX2_meet 25 = .ok (.iaload, 1) := by decide +kernel
theorem dX2_meet_26 : decode cX2_meet 26 = .ok (.aload_n 0, 1) := by decide +kernel
theorem dX2_meet_27 : decode cX2_meet 27 = .ok (.getfield 12, 3) := by decide +kernel
theorem dX2_meet_30 : decode cX2_meet 30 = .ok (.getfield 36, 3) := by decide +kernel
theorem dX2_meet_33 : decode cX2_meet 33 = .ok (.iload_n 2, 1) := by decide +kernel
theorem dX2_meet_34 : decode cX2_meet 34 = .ok (.iaload, 1) := by decide +kernel
theorem dX2_meet_35 : decode cX2_meet 35 = .ok (.if_icmp .ne 5, 3) := by decide +kernel
theorem dX2_meet_38 : decode cX2_meet 38 = .ok (.iconst 1, 1) := by decide +kernel
theorem dX2_meet_39 : decode cX2_meet 39 = .ok (.ireturn, 1) := by decide +kernel
theorem dX2_meet_40 : decode cX2_meet 40 = .ok (.iinc 4 1, 3) := by decide +kernel
theorem dX2_meet_43 : decode cX2_meet 43 = .ok (.goto (-40), 3) := by decide +kernel
theorem dX2_meet_46 : decode cX2_meet 46 = .ok (.iconst 0, 1) := by decide +kernel
theorem dX2_meet_47 : decode cX2_meet 47 = .ok (.ireturn, 1) := by decide +kernel
theorem dX2_findSources_0 : decode cX2_findSources 0 = .ok (.iconst 0, 1) := by decide +kernel
theorem dX2_findSources_1 : decode cX2_findSources 1 = .ok (.istore_n 2, 1) := by decide +kernel
theorem dX2_findSources_2 : decode cX2_findSources 2 = .ok (.iload_n 2, 1) := by decide +kernel
theorem dX2_findSources_3 : decode cX2_findSources 3 = .ok (.aload_n 0, 1) := by decide +kernel
theorem dX2_findSources_4 : decode cX2_findSources 4 = .ok (.getfield 25, 3) := by decide +kernel
theorem dX2_findSources_7 : decode cX2_findSources 7 = .ok (.getfield 92, 3) := by decide +kernel
theorem dX2_findSources_10 : decode cX2_findSources 10 = .ok (.if_icmp .ge 64, 3) := by decide +kernel
theorem dX2_findSources_13 : decode cX2_findSources 13 = .ok (.iconst 1, 1) := by decide +kernel
theorem dX2_findSources_14 : decode cX2_findSources 14 = .ok (.aload_n 0, 1) := by decide +kernel
theorem dX2_findSources_15 : decode cX2_findSources 15 = .ok (.getfield 25, 3) := by decide +kernel
theorem dX2_findSources_18 : decode cX2_findSources 18 = .ok (.getfield 36, 3) := by decide +kernel
theorem dX2_findSources_21 : decode cX2_findSources 21 = .ok (.iload_n 2, 1) := by decide +kernel
theorem dX2_findSources_22 : decode cX2_findSources 22 = .ok (.iaload, 1) := by decide +kernel
theorem dX2_findSources_23 : decode cX2_findSources 23 = .ok (.ishl, 1) := by decide +kernel
theorem dX2_findSources_24 : decode cX2_findSources 24 = .ok (.istore_n 3, 1) := by decide +kernel
theorem dX2_findSources_25 : decode cX2_findSources 25 = .ok (.iconst 0, 1) := by decide +kernel
theorem dX2_findSources_26 : decode cX2_findSources 26 = .ok (.istore 4, 2) := by decide +kernel
theorem dX2_findSources_28 : decode cX2_findSources 28 = .ok (.iload 4, 2) := by decide +kernel
theorem dX2_findSources_30 : decode cX2_findSources 30 = .ok (.iload_n 1, 1) := by decide +kernel
theorem dX2_findSources_31 : decode cX2_findSources 31 = .ok (.if_icmp .ge 30, 3) := by decide +kernel
theorem dX2_findSources_34 : decode cX2_findSources 34 = .ok (.aload_n 0, 1) := by decide +kernel
theorem dX2_findSources_35 : decode cX2_findSources 35 = .ok (.getfield 25, 3) := by decide +kernel
theorem dX2_findSources_38 : decode cX2_findSources 38 = .ok (.getfield 109, 3) := by decide +kernel
theorem dX2_findSources_41 : decode cX2_findSources 41 = .ok (.iload_n 2, 1) := by decide +kernel
theorem dX2_findSources_42 : decode cX2_findSources 42 = .ok (.iaload, 1) := by decide +kernel
theorem dX2_findSources_43 : decode cX2_findSources 43 = .ok (.iconst 4, 1) := by decide +kernel
theorem dX2_findSources_44 : decode cX2_findSources 44 = .ok (.if_icmp .eq 17, 3) := by decide +kernel
theorem dX2_findSources_47 : decode cX2_findSources 47 = .ok (.iload_n 3, 1) := by decide +kernel
theorem dX2_findSources_48 : decode cX2_findSources 48 = .ok (.aload_n 0, 1) := by decide +kernel
theorem dX2_findSources_49 : decode cX2_findSources 49 = .ok (.iload_n 3, 1) := by decide +kernel
theorem dX2_findSources_50 : decode cX2_findSources 50 = .ok (.invokevirtual 116, 3) := by decide +kernel
theorem dX2_findSources_53 : decode cX2_findSources 53 = .ok (.ior, 1) := by decide +kernel
theorem dX2_findSources_54 : decode cX2_findSources 54 = .ok (.istore_n 3, 1) := by decide +kernel
theorem dX2_findSources_55 : decode cX2_findSources 55 = .ok (.iinc 4 1, 3) := by decide +kernel
theorem dX2_findSources_58 : decode cX2_findSources 58 = .ok (.goto (-30), 3) := by decide +kernel
theorem dX2_findSources_61 : decode cX2_findSources 61 = .ok (.aload_n 0, 1) := by decide +kernel
theorem dX2_findSources_62 : decode cX2_findSources 62 = .ok (.getfield 22, 3) := by decide +kernel
theorem dX2_findSources_65 : decode cX2_findSources 65 = .ok (.iload_n 2, 1) := by decide +kernel
theorem dX2_findSources_66 : decode cX2_findSources 66 = .ok (.iload_n 3, 1) := by decide +kernel
theorem dX2_findSources_67 : decode cX2_findSources 67 = .ok (.iastore, 1) := by decide +kernel
theorem dX2_findSources_68 : decode cX2_findSources 68 = .ok (.iinc 2 1, 3) := by decide +kernel
theorem dX2_findSources_71 : decode cX2_findSources 71 = .ok (.goto (-69), 3) := by decide +kernel
theorem dX2_findSources_74 : decode cX2_findSources 74 = .ok (.return_, 1) := by decide +kernel
theorem dX2_seenFrom_0 : decode cX2_seenFrom 0 = .ok (.iconst 0, 1) := by decide +kernel
theorem dX2_seenFrom_1 : decode cX2_seenFrom 1 = .ok (.istore_n 2, 1) := by decide +kernel
theorem dX2_seenFrom_2 : decode cX2_seenFrom 2 = .ok (.iconst 0, 1) := by decide +kernel
theorem dX2_seenFrom_3 : decode cX2_seenFrom 3 = .ok (.istore_n 3, 1) := by decide +kernel
theorem dX2_seenFrom_4 : decode cX2_seenFrom 4 = .ok (.iload_n 3, 1) := by decide +kernel
theorem dX2_seenFrom_5 : decode cX2_seenFrom 5 = .ok (.aload_n 0, 1) := by decide +kernel
theorem dX2_seenFrom_6 : decode cX2_seenFrom 6 = .ok (.getfield 25, 3) := by decide +kernel
theorem dX2_seenFrom_9 : decode cX2_seenFrom 9 = .ok (.getfield 61, 3) := by decide +kernel
theorem dX2_seenFrom_12 : decode cX2_seenFrom 12 = .ok (.if_icmp .ge 30, 3) := by decide +kernel
theorem dX2_seenFrom_15 : decode cX2_seenFrom 15 = .ok (.iload_n 1, 1) := by decide +kernel
theorem dX2_seenFrom_16 : decode cX2_seenFrom 16 = .ok (.iload_n 3, 1) := by decide +kernel
theorem dX2_seenFrom_17 : decode cX2_seenFrom 17 = .ok (.ishr, 1) := by decide +kernel
theorem dX2_seenFrom_18 : decode cX2_seenFrom 18 = .ok (.iconst 1, 1) := by decide +kernel
theorem dX2_seenFrom_19 : decode cX2_seenFrom 19 = .ok (.iand, 1) := by decide +kernel
theorem dX2_seenFrom_20 : decode cX2_seenFrom 20 = .ok (.iconst 1, 1) := by decide +kernel
theorem dX2_seenFrom_21 : decode cX2_seenFrom 21 = .ok (.if_icmp .ne 15, 3) := by decide +kernel
theorem dX2_seenFrom_24 : decode cX2_seenFrom 24 = .ok (.iload_n 2, 1) := by decide +kernel
theorem dX2_seenFrom_25 : decode cX2_seenFrom 25 = .ok (.aload_n 0, 1) := by decide +kernel
theorem dX2_seenFrom_26 : decode cX2_seenFrom 26 = .ok (.getfield 25, 3) := by decide +kernel
theorem dX2_seenFrom_29 : decode cX2_seenFrom 29 = .ok (.getfield 119, 3) := by decide +kernel
theorem dX2_seenFrom_32 : decode cX2_seenFrom 32 = .ok (.iload_n 3, 1) := by decide +kernel
theorem dX2_seenFrom_33 : decode cX2_seenFrom 33 = .ok (.iaload, 1) := by decide +kernel
theorem dX2_seenFrom_34 : decode cX2_seenFrom 34 = .ok (.ior, 1) := by decide +kernel
theorem dX2_seenFrom_35 : decode cX2_seenFrom 35 = .ok (.istore_n 2, 1) := by decide +kernel
theorem dX2_seenFrom_36 : decode cX2_seenFrom 36 = .ok (.iinc 3 1, 3) := by decide +kernel
theorem dX2_seenFrom_39 : decode cX2_seenFrom 39 = .ok (.goto (-35), 3) := by decide +kernel
theorem dX2_seenFrom_42 : decode cX2_seenFrom 42 = .ok (.iload_n 2, 1) := by decide +kernel
theorem dX2_seenFrom_43 : decode cX2_seenFrom 43 = .ok (.ireturn, 1) := by decide +kernel
theorem dX2_canBegin_0 : decode cX2_canBegin 0 = .ok (.iload_n 1, 1) := by decide +kernel
theorem dX2_canBegin_1 : decode cX2_canBegin 1 = .ok (.istore_n 2, 1) := by decide +kernel
theorem dX2_canBegin_2 : decode cX2_canBegin 2 = .ok (.aload_n 0, 1) := by decide +kernel
theorem dX2_canBegin_3 : decode cX2_canBegin 3 = .ok (.getfield 25, 3) := by decide +kernel
theorem dX2_canBegin_6 : decode cX2_canBegin 6 = .ok (.getfield 92, 3) := by decide +kernel
theorem dX2_canBegin_9 : decode cX2_canBegin 9 = .ok (.iconst 1, 1) := by decide +kernel
theorem dX2_canBegin_10 : decode cX2_canBegin 10 = .ok (.isub, 1) := by decide +kernel
theorem dX2_canBegin_11 : decode cX2_canBegin 11 = .ok (.istore_n 3, 1) := by decide +kernel
theorem dX2_canBegin_12 : decode cX2_canBegin 12 = .ok (.iload_n 3, 1) := by decide +kernel
theorem dX2_canBegin_13 : decode cX2_canBegin 13 = .ok (.ifCond .lt 67, 3) := by decide +kernel
theorem dX2_canBegin_16 : decode cX2_canBegin 16 = .ok (.aload_n 0, 1) := by decide +kernel
theorem dX2_canBegin_17 : decode cX2_canBegin 17 = .ok (.getfield 25, 3) := by decide +kernel
theorem dX2_canBegin_20 : decode cX2_canBegin 20 = .ok (.getfield 61, 3) := by decide +kernel
theorem dX2_canBegin_23 : decode cX2_canBegin 23 = .ok (.ifCond .le 57, 3) := by decide +kernel
theorem dX2_canBegin_26 : decode cX2_canBegin 26 = .ok (.iload_n 2, 1) := by decide +kernel
theorem dX2_canBegin_27 : decode cX2_canBegin 27 = .ok (.aload_n 0, 1) := by decide +kernel
theorem dX2_canBegin_28 : decode cX2_canBegin 28 = .ok (.getfield 25, 3) := by decide +kernel
theorem dX2_canBegin_31 : decode cX2_canBegin 31 = .ok (.getfield 61, 3) := by decide +kernel
theorem dX2_canBegin_34 : decode cX2_canBegin 34 = .ok (.irem, 1) := by decide +kernel
theorem dX2_canBegin_35 : decode cX2_canBegin 35 = .ok (.istore 4, 2) := by decide +kernel
theorem dX2_canBegin_37 : decode cX2_canBegin 37 = .ok (.aload_n 0, 1) := by decide +kernel
theorem dX2_canBegin_38 : decode cX2_canBegin 38 = .ok (.getfield 22, 3) := by decide +kernel
theorem dX2_canBegin_41 : decode cX2_canBegin 41 = .ok (.iload_n 3, 1) := by decide +kernel
theorem dX2_canBegin_42 : decode cX2_canBegin 42 = .ok (.iaload, 1) := by decide +kernel
theorem dX2_canBegin_43 : decode cX2_canBegin 43 = .ok (.iload 4, 2) := by decide +kernel
theorem dX2_canBegin_45 : decode cX2_canBegin 45 = .ok (.ishr, 1) := by decide +kernel
theorem dX2_canBegin_46 : decode cX2_canBegin 46 = .ok (.iconst 1, 1) := by decide +kernel
theorem dX2_canBegin_47 : decode cX2_canBegin 47 = .ok (.iand, 1) := by decide +kernel
theorem dX2_canBegin_48 : decode cX2_canBegin 48 = .ok (.ifCond .ne 5, 3) := by decide +kernel
theorem dX2_canBegin_51 : decode cX2_canBegin 51 = .ok (.iconst 0, 1) := by decide +kernel
theorem dX2_canBegin_52 : decode cX2_canBegin 52 = .ok (.ireturn, 1) := by decide +kernel
theorem dX2_canBegin_53 : decode cX2_canBegin 53 = .ok (.aload_n 0, 1) := by decide +kernel
theorem dX2_canBegin_54 : decode cX2_canBegin 54 = .ok (.getfield 12, 3) := by decide +kernel
theorem dX2_canBegin_57 : decode cX2_canBegin 57 = .ok (.getfield 36, 3) := by decide +kernel
theorem dX2_canBegin_60 : decode cX2_canBegin 60 = .ok (.iload_n 3, 1) := by decide +kernel
theorem dX2_canBegin_61 : decode cX2_canBegin 61 = .ok (.iload 4, 2) := by decide +kernel
theorem dX2_canBegin_63 : decode cX2_canBegin 63 = .ok (.iastore, 1) := by decide +kernel
theorem dX2_canBegin_64 : decode cX2_canBegin 64 = .ok (.iload_n 2, 1) := by decide +kernel
theorem dX2_canBegin_65 : decode cX2_canBegin 65 = .ok (.aload_n 0, 1) := by decide +kernel
theorem dX2_canBegin_66 : decode cX2_canBegin 66 = .ok (.getfield 25, 3) := by decide +kernel
theorem dX2_canBegin_69 : decode cX2_canBegin 69 = .ok (.getfield 61, 3) := by decide +kernel
theorem dX2_canBegin_72 : decode cX2_canBegin 72 = .ok (.idiv, 1) := by decide +kernel
theorem dX2_canBegin_73 : decode cX2_canBegin 73 = .ok (.istore_n 2, 1) := by decide +kernel
theorem dX2_canBegin_74 : decode cX2_canBegin 74 = .ok (.iinc 3 (-1), 3) := by decide +kernel
theorem dX2_canBegin_77 : decode cX2_canBegin 77 = .ok (.goto (-65), 3) := by decide +kernel
theorem dX2_canBegin_80 : decode cX2_canBegin 80 = .ok (.iconst 1, 1) := by decide +kernel
theorem dX2_canBegin_81 : decode cX2_canBegin 81 = .ok (.ireturn, 1) := by decide +kernel
theorem dX2_countWay_0 : decode cX2_countWay 0 = .ok (.aload_n 0, 1) := by decide +kernel
theorem dX2_countWay_1 : decode cX2_countWay 1 = .ok (.getfield 86, 3) := by decide +kernel
theorem dX2_countWay_4 : decode cX2_countWay 4 = .ok (.ifCond .ne 26, 3) := by decide +kernel
theorem dX2_countWay_7 : decode cX2_countWay 7 = .ok (.aload_n 0, 1) := by decide +kernel
theorem dX2_countWay_8 : decode cX2_countWay 8 = .ok (.iload_n 1, 1) := by decide +kernel
theorem dX2_countWay_9 : decode cX2_countWay 9 = .ok (.invokevirtual 95, 3) := by decide +kernel
theorem dX2_countWay_12 : decode cX2_countWay 12 = .ok (.pop, 1) := by decide +kernel
theorem dX2_countWay_13 : decode cX2_countWay 13 = .ok (.aload_n 0, 1) := by decide +kernel
theorem dX2_countWay_14 : decode cX2_countWay 14 = .ok (.getfield 12, 3) := by decide +kernel
theorem dX2_countWay_17 : decode cX2_countWay 17 = .ok (.getfield 36, 3) := by decide +kernel
theorem dX2_countWay_20 : decode cX2_countWay 20 = .ok (.iconst 0, 1) := by decide +kernel
theorem dX2_countWay_21 : decode cX2_countWay 21 = .ok (.aload_n 0, 1) := by decide +kernel
theorem dX2_countWay_22 : decode cX2_countWay 22 = .ok (.getfield 18, 3) := by decide +kernel
theorem dX2_countWay_25 : decode cX2_countWay 25 = .ok (.iconst 0, 1) := by decide +kernel
theorem dX2_countWay_26 : decode cX2_countWay 26 = .ok (.iconst 5, 1) := by decide +kernel
theorem dX2_countWay_27 : decode cX2_countWay 27 = .ok (.invokestatic 122, 3) := by decide +kernel
theorem dX2_countWay_30 : decode cX2_countWay 30 = .ok (.aload_n 0, 1) := by decide +kernel
theorem dX2_countWay_31 : decode cX2_countWay 31 = .ok (.dup, 1) := by decide +kernel
theorem dX2_countWay_32 : decode cX2_countWay 32 = .ok (.getfield 86, 3) := by decide +kernel
theorem dX2_countWay_35 : decode cX2_countWay 35 = .ok (.iconst 1, 1) := by decide +kernel
theorem dX2_countWay_36 : decode cX2_countWay 36 = .ok (.iadd, 1) := by decide +kernel
theorem dX2_countWay_37 : decode cX2_countWay 37 = .ok (.putfield 86, 3) := by decide +kernel
theorem dX2_countWay_40 : decode cX2_countWay 40 = .ok (.return_, 1) := by decide +kernel
