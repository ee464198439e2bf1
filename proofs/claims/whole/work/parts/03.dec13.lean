/-! decode rows: X8 -/
theorem dX8_restIn_25 : decode cX8_restIn 25 = .ok (.iload_n 1, 1) := by decide +kernel
theorem dX8_restIn_26 : decode cX8_restIn 26 = .ok (.iconst 2, 1) := by decide +kernel
theorem dX8_restIn_27 : decode cX8_restIn 27 = .ok (.if_icmp .ne 7, 3) := by decide +kernel
theorem dX8_restIn_30 : decode cX8_restIn 30 = .ok (.iload_n 2, 1) := by decide +kernel
theorem dX8_restIn_31 : decode cX8_restIn 31 = .ok (.iconst 1, 1) := by decide +kernel
theorem dX8_restIn_32 : decode cX8_restIn 32 = .ok (.isub, 1) := by decide +kernel
theorem dX8_restIn_33 : decode cX8_restIn 33 = .ok (.ireturn, 1) := by decide +kernel
theorem dX8_restIn_34 : decode cX8_restIn 34 = .ok (.iinc 2 1, 3) := by decide +kernel
theorem dX8_restIn_37 : decode cX8_restIn 37 = .ok (.goto (-33), 3) := by decide +kernel
theorem dX8_restIn_40 : decode cX8_restIn 40 = .ok (.ldc 95, 2) := by decide +kernel
theorem dX8_restIn_42 : decode cX8_restIn 42 = .ok (.ireturn, 1) := by decide +kernel
theorem dX8_ringIn_0 : decode cX8_ringIn 0 = .ok (.iconst 1, 1) := by decide +kernel
theorem dX8_ringIn_1 : decode cX8_ringIn 1 = .ok (.istore_n 1, 1) := by decide +kernel
theorem dX8_ringIn_2 : decode cX8_ringIn 2 = .ok (.iload_n 1, 1) := by decide +kernel
theorem dX8_ringIn_3 : decode cX8_ringIn 3 = .ok (.bipush 60, 2) := by decide +kernel
theorem dX8_ringIn_5 : decode cX8_ringIn 5 = .ok (.if_icmp .gt 69, 3) := by decide +kernel
theorem dX8_ringIn_8 : decode cX8_ringIn 8 = .ok (.aload_n 0, 1) := by decide +kernel
theorem dX8_ringIn_9 : decode cX8_ringIn 9 = .ok (.invokevirtual 213, 3) := by decide +kernel
theorem dX8_ringIn_12 : decode cX8_ringIn 12 = .ok (.istore_n 2, 1) := by decide +kernel
theorem dX8_ringIn_13 : decode cX8_ringIn 13 = .ok (.iconst 1, 1) := by decide +kernel
theorem dX8_ringIn_14 : decode cX8_ringIn 14 = .ok (.istore_n 3, 1) := by decide +kernel
theorem dX8_ringIn_15 : decode cX8_ringIn 15 = .ok (.iconst 0, 1) := by decide +kernel
theorem dX8_ringIn_16 : decode cX8_ringIn 16 = .ok (.istore 4, 2) := by decide +kernel
theorem dX8_ringIn_18 : decode cX8_ringIn 18 = .ok (.iload 4, 2) := by decide +kernel
theorem dX8_ringIn_20 : decode cX8_ringIn 20 = .ok (.aload_n 0, 1) := by decide +kernel
theorem dX8_ringIn_21 : decode cX8_ringIn 21 = .ok (.getfield 19, 3) := by decide +kernel
theorem dX8_ringIn_24 : decode cX8_ringIn 24 = .ok (.iconst 2, 1) := by decide +kernel
theorem dX8_ringIn_25 : decode cX8_ringIn 25 = .ok (.iaload, 1) := by decide +kernel
theorem dX8_ringIn_26 : decode cX8_ringIn 26 = .ok (.if_icmp .ge 36, 3) := by decide +kernel
theorem dX8_ringIn_29 : decode cX8_ringIn 29 = .ok (.iload_n 3, 1) := by decide +kernel
theorem dX8_ringIn_30 : decode cX8_ringIn 30 = .ok (.ifCond .eq 24, 3) := by decide +kernel
theorem dX8_ringIn_33 : decode cX8_ringIn 33 = .ok (.aload_n 0, 1) := by decide +kernel
theorem dX8_ringIn_34 : decode cX8_ringIn 34 = .ok (.getfield 31, 3) := by decide +kernel
theorem dX8_ringIn_37 : decode cX8_ringIn 37 = .ok (.iload 4, 2) := by decide +kernel
theorem dX8_ringIn_39 : decode cX8_ringIn 39 = .ok (.iaload, 1) := by decide +kernel
theorem dX8_ringIn_40 : decode cX8_ringIn 40 = .ok (.aload_n 0, 1) := by decide +kernel
theorem dX8_ringIn_41 : decode cX8_ringIn 41 = .ok (.iload 4, 2) := by decide +kernel
theorem dX8_ringIn_43 : decode cX8_ringIn 43 = .ok (.iconst 1, 1) := by decide +kernel
theorem dX8_ringIn_44 : decode cX8_ringIn 44 = .ok (.invokevirtual 201, 3) := by decide +kernel
theorem dX8_ringIn_47 : decode cX8_ringIn 47 = .ok (.if_icmp .ne 7, 3) := by decide +kernel
theorem dX8_ringIn_50 : decode cX8_ringIn 50 = .ok (.iconst 1, 1) := by decide +kernel
theorem dX8_ringIn_51 : decode cX8_ringIn 51 = .ok (.goto 4, 3) := by decide +kernel
theorem dX8_ringIn_54 : decode cX8_ringIn 54 = .ok (.iconst 0, 1) := by decide +kernel
theorem dX8_ringIn_55 : decode cX8_ringIn 55 = .ok (.istore_n 3, 1) := by decide +kernel
theorem dX8_ringIn_56 : decode cX8_ringIn 56 = .ok (.iinc 4 1, 3) := by decide +kernel
theorem dX8_ringIn_59 : decode cX8_ringIn 59 = .ok (.goto (-41), 3) := by decide +kernel
theorem dX8_ringIn_62 : decode cX8_ringIn 62 = .ok (.iload_n 3, 1) := by decide +kernel
theorem dX8_ringIn_63 : decode cX8_ringIn 63 = .ok (.ifCond .eq 5, 3) := by decide +kernel
theorem dX8_ringIn_66 : decode cX8_ringIn 66 = .ok (.iload_n 1, 1) := by decide +kernel
theorem dX8_ringIn_67 : decode cX8_ringIn 67 = .ok (.ireturn, 1) := by decide +kernel
theorem dX8_ringIn_68 : decode cX8_ringIn 68 = .ok (.iinc 1 1, 3) := by decide +kernel
theorem dX8_ringIn_71 : decode cX8_ringIn 71 = .ok (.goto (-69), 3) := by decide +kernel
theorem dX8_ringIn_74 : decode cX8_ringIn 74 = .ok (.ldc 95, 2) := by decide +kernel
theorem dX8_ringIn_76 : decode cX8_ringIn 76 = .ok (.ireturn, 1) := by decide +kernel
theorem dX8_rest_0 : decode cX8_rest 0 = .ok (.aload_n 0, 1) := by decide +kernel
theorem dX8_rest_1 : decode cX8_rest 1 = .ok (.iconst 0, 1) := by decide +kernel
theorem dX8_rest_2 : decode cX8_rest 2 = .ok (.putfield 59, 3) := by decide +kernel
theorem dX8_rest_5 : decode cX8_rest 5 = .ok (.aload_n 0, 1) := by decide +kernel
theorem dX8_rest_6 : decode cX8_rest 6 = .ok (.invokevirtual 222, 3) := by decide +kernel
theorem dX8_rest_9 : decode cX8_rest 9 = .ok (.ifCond .ne 6, 3) := by decide +kernel
theorem dX8_rest_12 : decode cX8_rest 12 = .ok (.ldc 226, 2) := by decide +kernel
theorem dX8_rest_14 : decode cX8_rest 14 = .ok (.ireturn, 1) := by decide +kernel
theorem dX8_rest_15 : decode cX8_rest 15 = .ok (.iload_n 1, 1) := by decide +kernel
theorem dX8_rest_16 : decode cX8_rest 16 = .ok (.i2l, 1) := by decide +kernel
theorem dX8_rest_17 : decode cX8_rest 17 = .ok (.lconst 0, 1) := by decide +kernel
theorem dX8_rest_18 : decode cX8_rest 18 = .ok (.lconst 1, 1) := by decide +kernel
theorem dX8_rest_19 : decode cX8_rest 19 = .ok (.invokestatic 69, 3) := by decide +kernel
theorem dX8_rest_22 : decode cX8_rest 22 = .ok (.ifCond .ne 6, 3) := by decide +kernel
theorem dX8_rest_25 : decode cX8_rest 25 = .ok (.ldc 79, 2) := by decide +kernel
theorem dX8_rest_27 : decode cX8_rest 27 = .ok (.ireturn, 1) := by decide +kernel
theorem dX8_rest_28 : decode cX8_rest 28 = .ok (.aload_n 0, 1) := by decide +kernel
theorem dX8_rest_29 : decode cX8_rest 29 = .ok (.invokevirtual 219, 3) := by decide +kernel
theorem dX8_rest_32 : decode cX8_rest 32 = .ok (.iload_n 1, 1) := by decide +kernel
theorem dX8_rest_33 : decode cX8_rest 33 = .ok (.ifCond .ne 10, 3) := by decide +kernel
theorem dX8_rest_36 : decode cX8_rest 36 = .ok (.aload_n 0, 1) := by decide +kernel
theorem dX8_rest_37 : decode cX8_rest 37 = .ok (.invokevirtual 252, 3) := by decide +kernel
theorem dX8_rest_40 : decode cX8_rest 40 = .ok (.goto 7, 3) := by decide +kernel
theorem dX8_rest_43 : decode cX8_rest 43 = .ok (.aload_n 0, 1) := by decide +kernel
theorem dX8_rest_44 : decode cX8_rest 44 = .ok (.invokevirtual 255, 3) := by decide +kernel
theorem dX8_rest_47 : decode cX8_rest 47 = .ok (.ireturn, 1) := by decide +kernel
theorem dX8_layHired_0 : decode cX8_layHired 0 = .ok (.aload_n 0, 1) := by decide +kernel
theorem dX8_layHired_1 : decode cX8_layHired 1 = .ok (.invokevirtual 219, 3) := by decide +kernel
theorem dX8_layHired_4 : decode cX8_layHired 4 = .ok (.aload_n 0, 1) := by decide +kernel
theorem dX8_layHired_5 : decode cX8_layHired 5 = .ok (.iload_n 1, 1) := by decide +kernel
theorem dX8_layHired_6 : decode cX8_layHired 6 = .ok (.putfield 198, 3) := by decide +kernel
theorem dX8_layHired_9 : decode cX8_layHired 9 = .ok (.aload_n 0, 1) := by decide +kernel
theorem dX8_layHired_10 : decode cX8_layHired 10 = .ok (.iload_n 2, 1) := by decide +kernel
theorem dX8_layHired_11 : decode cX8_layHired 11 = .ok (.putfield 195, 3) := by decide +kernel
theorem dX8_layHired_14 : decode cX8_layHired 14 = .ok (.aload_n 0, 1) := by decide +kernel
theorem dX8_layHired_15 : decode cX8_layHired 15 = .ok (.getfield 46, 3) := by decide +kernel
theorem dX8_layHired_18 : decode cX8_layHired 18 = .ok (.iload_n 1, 1) := by decide +kernel
theorem dX8_layHired_19 : decode cX8_layHired 19 = .ok (.dup2, 1) := by decide +kernel
theorem dX8_layHired_20 : decode cX8_layHired 20 = .ok (.iaload, 1) := by decide +kernel
theorem dX8_layHired_21 : decode cX8_layHired 21 = .ok (.iload_n 2, 1) := by decide +kernel
theorem dX8_layHired_22 : decode cX8_layHired 22 = .ok (.iadd, 1) := by decide +kernel
theorem dX8_layHired_23 : decode cX8_layHired 23 = .ok (.iastore, 1) := by decide +kernel
theorem dX8_layHired_24 : decode cX8_layHired 24 = .ok (.return_, 1) := by decide +kernel
theorem dX8_isSo_0 : decode cX8_isSo 0 = .ok (.iconst 1, 1) := by decide +kernel
theorem dX8_isSo_1 : decode cX8_isSo 1 = .ok (.istore_n 3, 1) := by decide +kernel
theorem dX8_isSo_2 : decode cX8_isSo 2 = .ok (.iconst 0, 1) := by decide +kernel
theorem dX8_isSo_3 : decode cX8_isSo 3 = .ok (.istore 4, 2) := by decide +kernel
theorem dX8_isSo_5 : decode cX8_isSo 5 = .ok (.iload 4, 2) := by decide +kernel
theorem dX8_isSo_7 : decode cX8_isSo 7 = .ok (.aload_n 0, 1) := by decide +kernel
theorem dX8_isSo_8 : decode cX8_isSo 8 = .ok (.getfield 19, 3) := by decide +kernel
theorem dX8_isSo_11 : decode cX8_isSo 11 = .ok (.iconst 2, 1) := by decide +kernel
theorem dX8_isSo_12 : decode cX8_isSo 12 = .ok (.iaload, 1) := by decide +kernel
theorem dX8_isSo_13 : decode cX8_isSo 13 = .ok (.if_icmp .ge 59, 3) := by decide +kernel
theorem dX8_isSo_16 : decode cX8_isSo 16 = .ok (.iload_n 3, 1) := by decide +kernel
theorem dX8_isSo_17 : decode cX8_isSo 17 = .ok (.ifCond .eq 47, 3) := by decide +kernel
theorem dX8_isSo_20 : decode cX8_isSo 20 = .ok (.iload_n 2, 1) := by decide +kernel
theorem dX8_isSo_21 : decode cX8_isSo 21 = .ok (.ifCond .eq 17, 3) := by decide +kernel
theorem dX8_isSo_24 : decode cX8_isSo 24 = .ok (.aload_n 0, 1) := by decide +kernel
theorem dX8_isSo_25 : decode cX8_isSo 25 = .ok (.getfield 31, 3) := by decide +kernel
theorem dX8_isSo_28 : decode cX8_isSo 28 = .ok (.iload 4, 2) := by decide +kernel
theorem dX8_isSo_30 : decode cX8_isSo 30 = .ok (.iaload, 1) := by decide +kernel
theorem dX8_isSo_31 : decode cX8_isSo 31 = .ok (.iload_n 1, 1) := by decide +kernel
theorem dX8_isSo_32 : decode cX8_isSo 32 = .ok (.if_icmp .eq 32, 3) := by decide +kernel
theorem dX8_isSo_35 : decode cX8_isSo 35 = .ok (.goto 25, 3) := by decide +kernel
theorem dX8_isSo_38 : decode cX8_isSo 38 = .ok (.aload_n 0, 1) := by decide +kernel
theorem dX8_isSo_39 : decode cX8_isSo 39 = .ok (.getfield 31, 3) := by decide +kernel
theorem dX8_isSo_42 : decode cX8_isSo 42 = .ok (.iload 4, 2) := by decide +kernel
theorem dX8_isSo_44 : decode cX8_isSo 44 = .ok (.iaload, 1) := by decide +kernel
theorem dX8_isSo_45 : decode cX8_isSo 45 = .ok (.iload_n 1, 1) := by decide +kernel
theorem dX8_isSo_46 : decode cX8_isSo 46 = .ok (.if_icmp .eq 14, 3) := by decide +kernel
theorem dX8_isSo_49 : decode cX8_isSo 49 = .ok (.aload_n 0, 1) := by decide +kernel
theorem dX8_isSo_50 : decode cX8_isSo 50 = .ok (.iload 4, 2) := by decide +kernel
theorem dX8_isSo_52 : decode cX8_isSo 52 = .ok (.iconst 0, 1) := by decide +kernel
theorem dX8_isSo_53 : decode cX8_isSo 53 = .ok (.invokevirtual 201, 3) := by decide +kernel
theorem dX8_isSo_56 : decode cX8_isSo 56 = .ok (.iconst 4, 1) := by decide +kernel
theorem dX8_isSo_57 : decode cX8_isSo 57 = .ok (.if_icmp .ne 7, 3) := by decide +kernel
theorem dX8_isSo_60 : decode cX8_isSo 60 = .ok (.iconst 1, 1) := by decide +kernel
theorem dX8_isSo_61 : decode cX8_isSo 61 = .ok (.goto 4, 3) := by decide +kernel
theorem dX8_isSo_64 : decode cX8_isSo 64 = .ok (.iconst 0, 1) := by decide +kernel
theorem dX8_isSo_65 : decode cX8_isSo 65 = .ok (.istore_n 3, 1) := by decide +kernel
theorem dX8_isSo_66 : decode cX8_isSo 66 = .ok (.iinc 4 1, 3) := by decide +kernel
theorem dX8_isSo_69 : decode cX8_isSo 69 = .ok (.goto (-64), 3) := by decide +kernel
theorem dX8_isSo_72 : decode cX8_isSo 72 = .ok (.iload_n 3, 1) := by decide +kernel
theorem dX8_isSo_73 : decode cX8_isSo 73 = .ok (.ireturn, 1) := by decide +kernel
theorem dX8_hire_0 : decode cX8_hire 0 = .ok (.iconst 0, 1) := by decide +kernel
theorem dX8_hire_1 : decode cX8_hire 1 = .ok (.istore 5, 2) := by decide +kernel
theorem dX8_hire_3 : decode cX8_hire 3 = .ok (.iload 5, 2) := by decide +kernel
theorem dX8_hire_5 : decode cX8_hire 5 = .ok (.bipush 60, 2) := by decide +kernel
theorem dX8_hire_7 : decode cX8_hire 7 = .ok (.if_icmp .gt 90, 3) := by decide +kernel
theorem dX8_hire_10 : decode cX8_hire 10 = .ok (.iconst 0, 1) := by decide +kernel
theorem dX8_hire_11 : decode cX8_hire 11 = .ok (.istore 6, 2) := by decide +kernel
theorem dX8_hire_13 : decode cX8_hire 13 = .ok (.iload 6, 2) := by decide +kernel
theorem dX8_hire_15 : decode cX8_hire 15 = .ok (.aload_n 0, 1) := by decide +kernel
theorem dX8_hire_16 : decode cX8_hire 16 = .ok (.getfield 19, 3) := by decide +kernel
theorem dX8_hire_19 : decode cX8_hire 19 = .ok (.iconst 0, 1) := by decide +kernel
theorem dX8_hire_20 : decode cX8_hire 20 = .ok (.iaload, 1) := by decide +kernel
theorem dX8_hire_21 : decode cX8_hire 21 = .ok (.if_icmp .ge 70, 3) := by decide +kernel
theorem dX8_hire_24 : decode cX8_hire 24 = .ok (.iload 5, 2) := by decide +kernel
theorem dX8_hire_26 : decode cX8_hire 26 = .ok (.ifCond .gt 8, 3) := by decide +kernel
theorem dX8_hire_29 : decode cX8_hire 29 = .ok (.iload 6, 2) := by decide +kernel
theorem dX8_hire_31 : decode cX8_hire 31 = .ok (.ifCond .ne 60, 3) := by decide +kernel
theorem dX8_hire_34 : decode cX8_hire 34 = .ok (.iload 5, 2) := by decide +kernel
theorem dX8_hire_36 : decode cX8_hire 36 = .ok (.ifCond .eq 14, 3) := by decide +kernel
theorem dX8_hire_39 : decode cX8_hire 39 = .ok (.iload 4, 2) := by decide +kernel
theorem dX8_hire_41 : decode cX8_hire 41 = .ok (.ifCond .eq 9, 3) := by decide +kernel
theorem dX8_hire_44 : decode cX8_hire 44 = .ok (.iload 6, 2) := by decide +kernel
theorem dX8_hire_46 : decode cX8_hire 46 = .ok (.iload_n 1, 1) := by decide +kernel
theorem dX8_hire_47 : decode cX8_hire 47 = .ok (.if_icmp .eq 38, 3) := by decide +kernel
theorem dX8_hire_50 : decode cX8_hire 50 = .ok (.aload_n 0, 1) := by decide +kernel
theorem dX8_hire_51 : decode cX8_hire 51 = .ok (.iload 6, 2) := by decide +kernel
theorem dX8_hire_53 : decode cX8_hire 53 = .ok (.iload 5, 2) := by decide +kernel
theorem dX8_hire_55 : decode cX8_hire 55 = .ok (.invokevirtual 258, 3) := by decide +kernel
theorem dX8_hire_58 : decode cX8_hire 58 = .ok (.aload_n 0, 1) := by decide +kernel
theorem dX8_hire_59 : decode cX8_hire 59 = .ok (.iload_n 2, 1) := by decide +kernel
theorem dX8_hire_60 : decode cX8_hire 60 = .ok (.invokevirtual 249, 3) := by decide +kernel
theorem dX8_hire_63 : decode cX8_hire 63 = .ok (.aload_n 0, 1) := by decide +kernel
theorem dX8_hire_64 : decode cX8_hire 64 = .ok (.iload_n 1, 1) := by decide +kernel
theorem dX8_hire_65 : decode cX8_hire 65 = .ok (.iload 4, 2) := by decide +kernel
theorem dX8_hire_67 : decode cX8_hire 67 = .ok (.invokevirtual 261, 3) := by decide +kernel
theorem dX8_hire_70 : decode cX8_hire 70 = .ok (.ifCond .eq 15, 3) := by decide +kernel
theorem dX8_hire_73 : decode cX8_hire 73 = .ok (.iload_n 3, 1) := by decide +kernel
theorem dX8_hire_74 : decode cX8_hire 74 = .ok (.ifCond .ne 8, 3) := by decide +kernel
theorem dX8_hire_77 : decode cX8_hire 77 = .ok (.iload 5, 2) := by decide +kernel
theorem dX8_hire_79 : decode cX8_hire 79 = .ok (.goto 5, 3) := by decide +kernel
theorem dX8_hire_82 : decode cX8_hire 82 = .ok (.iload 6, 2) := by decide +kernel
theorem dX8_hire_84 : decode cX8_hire 84 = .ok (.ireturn, 1) := by decide +kernel
theorem dX8_hire_85 : decode cX8_hire 85 = .ok (.iinc 6 1, 3) := by decide +kernel
theorem dX8_hire_88 : decode cX8_hire 88 = .ok (.goto (-75), 3) := by decide +kernel
theorem dX8_hire_91 : decode cX8_hire 91 = .ok (.iinc 5 1, 3) := by decide +kernel
theorem dX8_hire_94 : decode cX8_hire 94 = .ok (.goto (-91), 3) := by decide +kernel
theorem dX8_hire_97 : decode cX8_hire 97 = .ok (.ldc 95, 2) := by decide +kernel
theorem dX8_hire_99 : decode cX8_hire 99 = .ok (.ireturn, 1) := by decide +kernel
theorem dX8_hired_0 : decode cX8_hired 0 = .ok (.aload_n 0, 1) := by decide +kernel
theorem dX8_hired_1 : decode cX8_hired 1 = .ok (.iconst 0, 1) := by decide +kernel
theorem dX8_hired_2 : decode cX8_hired 2 = .ok (.putfield 59, 3) := by decide +kernel
theorem dX8_hired_5 : decode cX8_hired 5 = .ok (.aload_n 0, 1) := by decide +kernel
theorem dX8_hired_6 : decode cX8_hired 6 = .ok (.iload_n 1, 1) := by decide +kernel
theorem dX8_hired_7 : decode cX8_hired 7 = .ok (.invokevirtual 239, 3) := by decide +kernel
theorem dX8_hired_10 : decode cX8_hired 10 = .ok (.ifCond .eq 36, 3) := by decide +kernel
theorem dX8_hired_13 : decode cX8_hired 13 = .ok (.iload_n 2, 1) := by decide +kernel
theorem dX8_hired_14 : decode cX8_hired 14 = .ok (.i2l, 1) := by decide +kernel
theorem dX8_hired_15 : decode cX8_hired 15 = .ok (.lconst 1, 1) := by decide +kernel
theorem dX8_hired_16 : decode cX8_hired 16 = .ok (.ldc2_w 265, 3) := by decide +kernel
theorem dX8_hired_19 : decode cX8_hired 19 = .ok (.invokestatic 69, 3) := by decide +kernel
theorem dX8_hired_22 : decode cX8_hired 22 = .ok (.ifCond .eq 24, 3) := by decide +kernel
theorem dX8_hired_25 : decode cX8_hired 25 = .ok (.iload_n 3, 1) := by decide +kernel
theorem dX8_hired_26 : decode cX8_hired 26 = .ok (.i2l, 1) := by decide +kernel
theorem dX8_hired_27 : decode cX8_hired 27 = .ok (.lconst 0, 1) := by decide +kernel
theorem dX8_hired_28 : decode cX8_hired 28 = .ok (.lconst 1, 1) := by decide +kernel
theorem dX8_hired_29 : decode cX8_hired 29 = .ok (.invokestatic 69, 3) := by decide +kernel
theorem dX8_hired_32 : decode cX8_hired 32 = .ok (.ifCond .eq 14, 3) := by decide +kernel
theorem dX8_hired_35 : decode cX8_hired 35 = .ok (.aload_n 0, 1) := by decide +kernel
theorem dX8_hired_36 : decode cX8_hired 36 = .ok (.iload_n 1, 1) := by decide +kernel
theorem dX8_hired_37 : decode cX8_hired 37 = .ok (.iload_n 2, 1) := by decide +kernel
theorem dX8_hired_38 : decode cX8_hired 38 = .ok (.iload_n 3, 1) := by decide +kernel
theorem dX8_hired_39 : decode cX8_hired 39 = .ok (.iconst 0, 1) := by decide +kernel
theorem dX8_hired_40 : decode cX8_hired 40 = .ok (.invokevirtual 267, 3) := by decide +kernel
theorem dX8_hired_43 : decode cX8_hired 43 = .ok (.goto 5, 3) := by decide +kernel
theorem dX8_hired_46 : decode cX8_hired 46 = .ok (.ldc 79, 2) := by decide +kernel
theorem dX8_hired_48 : decode cX8_hired 48 = .ok (.ireturn, 1) := by decide +kernel
theorem dX8_empty_0 : decode cX8_empty 0 = .ok (.aload_n 0, 1) := by decide +kernel
theorem dX8_empty_1 : decode cX8_empty 1 = .ok (.iconst 0, 1) := by decide +kernel
theorem dX8_empty_2 : decode cX8_empty 2 = .ok (.putfield 59, 3) := by decide +kernel
theorem dX8_empty_5 : decode cX8_empty 5 = .ok (.aload_n 0, 1) := by decide +kernel
theorem dX8_empty_6 : decode cX8_empty 6 = .ok (.iload_n 1, 1) := by decide +kernel
theorem dX8_empty_7 : decode cX8_empty 7 = .ok (.invokevirtual 239, 3) := by decide +kernel
theorem dX8_empty_10 : decode cX8_empty 10 = .ok (.ifCond .eq 36, 3) := by decide +kernel
theorem dX8_empty_13 : decode cX8_empty 13 = .ok (.iload_n 2, 1) := by decide +kernel
theorem dX8_empty_14 : decode cX8_empty 14 = .ok (.i2l, 1) := by decide +kernel
theorem dX8_empty_15 : decode cX8_empty 15 = .ok (.lconst 1, 1) := by decide +kernel
theorem dX8_empty_16 : decode cX8_empty 16 = .ok (.ldc2_w 265, 3) := by decide +kernel
theorem dX8_empty_19 : decode cX8_empty 19 = .ok (.invokestatic 69, 3) := by decide +kernel
theorem dX8_empty_22 : decode cX8_empty 22 = .ok (.ifCond .eq 24, 3) := by decide +kernel
theorem dX8_empty_25 : decode cX8_empty 25 = .ok (.iload_n 3, 1) := by decide +kernel
theorem dX8_empty_26 : decode cX8_empty 26 = .ok (.i2l, 1) := by decide +kernel
theorem dX8_empty_27 : decode cX8_empty 27 = .ok (.lconst 0, 1) := by decide +kernel
theorem dX8_empty_28 : decode cX8_empty 28 = .ok (.lconst 1, 1) := by decide +kernel
theorem dX8_empty_29 : decode cX8_empty 29 = .ok (.invokestatic 69, 3) := by decide +kernel
theorem dX8_empty_32 : decode cX8_empty 32 = .ok (.ifCond .eq 14, 3) := by decide +kernel
theorem dX8_empty_35 : decode cX8_empty 35 = .ok (.aload_n 0, 1) := by decide +kernel
theorem dX8_empty_36 : decode cX8_empty 36 = .ok (.iload_n 1, 1) := by decide +kernel
theorem dX8_empty_37 : decode cX8_empty 37 = .ok (.iload_n 2, 1) := by decide +kernel
theorem dX8_empty_38 : decode cX8_empty 38 = .ok (.iload_n 3, 1) := by decide +kernel
theorem dX8_empty_39 : decode cX8_empty 39 = .ok (.iconst 1, 1) := by decide +kernel
theorem dX8_empty_40 : decode cX8_empty 40 = .ok (.invokevirtual 267, 3) := by decide +kernel
theorem dX8_empty_43 : decode cX8_empty 43 = .ok (.goto 5, 3) := by decide +kernel
theorem dX8_empty_46 : decode cX8_empty 46 = .ok (.ldc 79, 2) := by decide +kernel
theorem dX8_empty_48 : decode cX8_empty 48 = .ok (.ireturn, 1) := by decide +kernel
theorem dX8_areApart_0 : decode cX8_areApart 0 = .ok (.aload_n 0, 1) := by decide +kernel
theorem dX8_areApart_1 : decode cX8_areApart 1 = .ok (.invokevirtual 219, 3) := by decide +kernel
theorem dX8_areApart_4 : decode cX8_areApart 4 = .ok (.iload 4, 2) := by decide +kernel
theorem dX8_areApart_6 : decode cX8_areApart 6 = .ok (.ldc 95, 2) := by decide +kernel
theorem dX8_areApart_8 : decode cX8_areApart 8 = .ok (.if_icmp .eq 47, 3) := by decide +kernel
theorem dX8_areApart_11 : decode cX8_areApart 11 = .ok (.aload_n 0, 1) := by decide +kernel
theorem dX8_areApart_12 : decode cX8_areApart 12 = .ok (.getfield 37, 3) := by decide +kernel
theorem dX8_areApart_15 : decode cX8_areApart 15 = .ok (.iload 4, 2) := by decide +kernel
theorem dX8_areApart_17 : decode cX8_areApart 17 = .ok (.bipush 6, 2) := by decide +kernel
theorem dX8_areApart_19 : decode cX8_areApart 19 = .ok (.idiv, 1) := by decide +kernel
theorem dX8_areApart_20 : decode cX8_areApart 20 = .ok (.dup2, 1) := by decide +kernel
theorem dX8_areApart_21 : decode cX8_areApart 21 = .ok (.iaload, 1) := by decide +kernel
theorem dX8_areApart_22 : decode cX8_areApart 22 = .ok (.iconst 1, 1) := by decide +kernel
theorem dX8_areApart_23 : decode cX8_areApart 23 = .ok (.iload 4, 2) := by decide +kernel
theorem dX8_areApart_25 : decode cX8_areApart 25 = .ok (.bipush 6, 2) := by decide +kernel
theorem dX8_areApart_27 : decode cX8_areApart 27 = .ok (.irem, 1) := by decide +kernel
theorem dX8_areApart_28 : decode cX8_areApart 28 = .ok (.ishl, 1) := by decide +kernel
theorem dX8_areApart_29 : decode cX8_areApart 29 = .ok (.iconst (-1), 1) := by decide +kernel
theorem dX8_areApart_30 : decode cX8_areApart 30 = .ok (.ixor, 1) := by decide +kernel
theorem dX8_areApart_31 : decode cX8_areApart 31 = .ok (.iand, 1) := by decide +kernel
theorem dX8_areApart_32 : decode cX8_areApart 32 = .ok (.iastore, 1) := by decide +kernel
theorem dX8_areApart_33 : decode cX8_areApart 33 = .ok (.aload_n 0, 1) := by decide +kernel
theorem dX8_areApart_34 : decode cX8_areApart 34 = .ok (.getfield 37, 3) := by decide +kernel
theorem dX8_areApart_37 : decode cX8_areApart 37 = .ok (.iload 4, 2) := by decide +kernel
theorem dX8_areApart_39 : decode cX8_areApart 39 = .ok (.bipush 6, 2) := by decide +kernel
theorem dX8_areApart_41 : decode cX8_areApart 41 = .ok (.irem, 1) := by decide +kernel
theorem dX8_areApart_42 : decode cX8_areApart 42 = .ok (.dup2, 1) := by decide +kernel
theorem dX8_areApart_43 : decode cX8_areApart 43 = .ok (.iaload, 1) := by decide +kernel
theorem dX8_areApart_44 : decode cX8_areApart 44 = .ok (.iconst 1, 1) := by decide +kernel
theorem dX8_areApart_45 : decode cX8_areApart 45 = .ok (.iload 4, 2) := by decide +kernel
theorem dX8_areApart_47 : decode cX8_areApart 47 = .ok (.bipush 6, 2) := by decide +kernel
theorem dX8_areApart_49 : decode cX8_areApart 49 = .ok (.idiv, 1) := by decide +kernel
theorem dX8_areApart_50 : decode cX8_areApart 50 = .ok (.ishl, 1) := by decide +kernel
theorem dX8_areApart_51 : decode cX8_areApart 51 = .ok (.iconst (-1), 1) := by decide +kernel
theorem dX8_areApart_52 : decode cX8_areApart 52 = .ok (.ixor, 1) := by decide +kernel
theorem dX8_areApart_53 : decode cX8_areApart 53 = .ok (.iand, 1) := by decide +kernel
theorem dX8_areApart_54 : decode cX8_areApart 54 = .ok (.iastore, 1) := by decide +kernel
theorem dX8_areApart_55 : decode cX8_areApart 55 = .ok (.iconst 1, 1) := by decide +kernel
theorem dX8_areApart_56 : decode cX8_areApart 56 = .ok (.istore 5, 2) := by decide +kernel
theorem dX8_areApart_58 : decode cX8_areApart 58 = .ok (.iconst 0, 1) := by decide +kernel
theorem dX8_areApart_59 : decode cX8_areApart 59 = .ok (.istore 6, 2) := by decide +kernel
theorem dX8_areApart_61 : decode cX8_areApart 61 = .ok (.iload 6, 2) := by decide +kernel
theorem dX8_areApart_63 : decode cX8_areApart 63 = .ok (.iload_n 3, 1) := by decide +kernel
theorem dX8_areApart_64 : decode cX8_areApart 64 = .ok (.if_icmp .ge 42, 3) := by decide +kernel
theorem dX8_areApart_67 : decode cX8_areApart 67 = .ok (.iload 5, 2) := by decide +kernel
theorem dX8_areApart_69 : decode cX8_areApart 69 = .ok (.ifCond .eq 37, 3) := by decide +kernel
theorem dX8_areApart_72 : decode cX8_areApart 72 = .ok (.aload_n 0, 1) := by decide +kernel
theorem dX8_areApart_73 : decode cX8_areApart 73 = .ok (.invokevirtual 213, 3) := by decide +kernel
theorem dX8_areApart_76 : decode cX8_areApart 76 = .ok (.istore 7, 2) := by decide +kernel
theorem dX8_areApart_78 : decode cX8_areApart 78 = .ok (.aload_n 0, 1) := by decide +kernel
theorem dX8_areApart_79 : decode cX8_areApart 79 = .ok (.getfield 31, 3) := by decide +kernel
theorem dX8_areApart_82 : decode cX8_areApart 82 = .ok (.iload_n 1, 1) := by decide +kernel
theorem dX8_areApart_83 : decode cX8_areApart 83 = .ok (.iaload, 1) := by decide +kernel
theorem dX8_areApart_84 : decode cX8_areApart 84 = .ok (.aload_n 0, 1) := by decide +kernel
theorem dX8_areApart_85 : decode cX8_areApart 85 = .ok (.getfield 31, 3) := by decide +kernel
theorem dX8_areApart_88 : decode cX8_areApart 88 = .ok (.iload_n 2, 1) := by decide +kernel
theorem dX8_areApart_89 : decode cX8_areApart 89 = .ok (.iaload, 1) := by decide +kernel
theorem dX8_areApart_90 : decode cX8_areApart 90 = .ok (.if_icmp .eq 7, 3) := by decide +kernel
theorem dX8_areApart_93 : decode cX8_areApart 93 = .ok (.iconst 1, 1) := by decide +kernel
theorem dX8_areApart_94 : decode cX8_areApart 94 = .ok (.goto 4, 3) := by decide +kernel
theorem dX8_areApart_97 : decode cX8_areApart 97 = .ok (.iconst 0, 1) := by decide +kernel
theorem dX8_areApart_98 : decode cX8_areApart 98 = .ok (.istore 5, 2) := by decide +kernel
theorem dX8_areApart_100 : decode cX8_areApart 100 = .ok (.iinc 6 1, 3) := by decide +kernel
theorem dX8_areApart_103 : decode cX8_areApart 103 = .ok (.goto (-42), 3) := by decide +kernel
theorem dX8_areApart_106 : decode cX8_areApart 106 = .ok (.iload 5, 2) := by decide +kernel
theorem dX8_areApart_108 : decode cX8_areApart 108 = .ok (.ireturn, 1) := by decide +kernel
theorem dX8_apart_0 : decode cX8_apart 0 = .ok (.aload_n 0, 1) := by decide +kernel
theorem dX8_apart_1 : decode cX8_apart 1 = .ok (.iconst 0, 1) := by decide +kernel
theorem dX8_apart_2 : decode cX8_apart 2 = .ok (.putfield 59, 3) := by decide +kernel
theorem dX8_apart_5 : decode cX8_apart 5 = .ok (.aload_n 0, 1) := by decide +kernel
theorem dX8_apart_6 : decode cX8_apart 6 = .ok (.iload_n 1, 1) := by decide +kernel
theorem dX8_apart_7 : decode cX8_apart 7 = .ok (.invokevirtual 242, 3) := by decide +kernel
theorem dX8_apart_10 : decode cX8_apart 10 = .ok (.ifCond .eq 28, 3) := by decide +kernel
theorem dX8_apart_13 : decode cX8_apart 13 = .ok (.aload_n 0, 1) := by decide +kernel
theorem dX8_apart_14 : decode cX8_apart 14 = .ok (.iload_n 2, 1) := by decide +kernel
theorem dX8_apart_15 : decode cX8_apart 15 = .ok (.invokevirtual 242, 3) := by decide +kernel
theorem dX8_apart_18 : decode cX8_apart 18 = .ok (.ifCond .eq 20, 3) := by decide +kernel
theorem dX8_apart_21 : decode cX8_apart 21 = .ok (.iload_n 1, 1) := by decide +kernel
theorem dX8_apart_22 : decode cX8_apart 22 = .ok (.iload_n 2, 1) := by decide +kernel
theorem dX8_apart_23 : decode cX8_apart 23 = .ok (.if_icmp .eq 15, 3) := by decide +kernel
theorem dX8_apart_26 : decode cX8_apart 26 = .ok (.iload_n 3, 1) := by decide +kernel
theorem dX8_apart_27 : decode cX8_apart 27 = .ok (.i2l, 1) := by decide +kernel
theorem dX8_apart_28 : decode cX8_apart 28 = .ok (.lconst 1, 1) := by decide +kernel
theorem dX8_apart_29 : decode cX8_apart 29 = .ok (.ldc2_w 247, 3) := by decide +kernel
theorem dX8_apart_32 : decode cX8_apart 32 = .ok (.invokestatic 69, 3) := by decide +kernel
theorem dX8_apart_35 : decode cX8_apart 35 = .ok (.ifCond .ne 6, 3) := by decide +kernel
theorem dX8_apart_38 : decode cX8_apart 38 = .ok (.ldc 79, 2) := by decide +kernel
theorem dX8_apart_40 : decode cX8_apart 40 = .ok (.ireturn, 1) := by decide +kernel
theorem dX8_apart_41 : decode cX8_apart 41 = .ok (.aload_n 0, 1) := by decide +kernel
theorem dX8_apart_42 : decode cX8_apart 42 = .ok (.iload_n 1, 1) := by decide +kernel
theorem dX8_apart_43 : decode cX8_apart 43 = .ok (.iload_n 2, 1) := by decide +kernel
theorem dX8_apart_44 : decode cX8_apart 44 = .ok (.iload_n 3, 1) := by decide +kernel
theorem dX8_apart_45 : decode cX8_apart 45 = .ok (.ldc 95, 2) := by decide +kernel
theorem dX8_apart_47 : decode cX8_apart 47 = .ok (.invokevirtual 271, 3) := by decide +kernel
theorem dX8_apart_50 : decode cX8_apart 50 = .ok (.ifCond .eq 5, 3) := by decide +kernel
theorem dX8_apart_53 : decode cX8_apart 53 = .ok (.iconst (-1), 1) := by decide +kernel
theorem dX8_apart_54 : decode cX8_apart 54 = .ok (.ireturn, 1) := by decide +kernel
theorem dX8_apart_55 : decode cX8_apart 55 = .ok (.iconst 0, 1) := by decide +kernel
theorem dX8_apart_56 : decode cX8_apart 56 = .ok (.istore 4, 2) := by decide +kernel
theorem dX8_apart_58 : decode cX8_apart 58 = .ok (.iload 4, 2) := by decide +kernel
theorem dX8_apart_60 : decode cX8_apart 60 = .ok (.bipush 36, 2) := by decide +kernel
theorem dX8_apart_62 : decode cX8_apart 62 = .ok (.if_icmp .ge 74, 3) := by decide +kernel
theorem dX8_apart_65 : decode cX8_apart 65 = .ok (.iload 4, 2) := by decide +kernel
theorem dX8_apart_67 : decode cX8_apart 67 = .ok (.bipush 6, 2) := by decide +kernel
theorem dX8_apart_69 : decode cX8_apart 69 = .ok (.idiv, 1) := by decide +kernel
theorem dX8_apart_70 : decode cX8_apart 70 = .ok (.iload 4, 2) := by decide +kernel
theorem dX8_apart_72 : decode cX8_apart 72 = .ok (.bipush 6, 2) := by decide +kernel
theorem dX8_apart_74 : decode cX8_apart 74 = .ok (.irem, 1) := by decide +kernel
theorem dX8_apart_75 : decode cX8_apart 75 = .ok (.if_icmp .ge 32, 3) := by decide +kernel
theorem dX8_apart_78 : decode cX8_apart 78 = .ok (.aload_n 0, 1) := by decide +kernel
theorem dX8_apart_79 : decode cX8_apart 79 = .ok (.getfield 19, 3) := by decide +kernel
theorem dX8_apart_82 : decode cX8_apart 82 = .ok (.bipush 10, 2) := by decide +kernel
theorem dX8_apart_84 : decode cX8_apart 84 = .ok (.iload 4, 2) := by decide +kernel
theorem dX8_apart_86 : decode cX8_apart 86 = .ok (.bipush 6, 2) := by decide +kernel
theorem dX8_apart_88 : decode cX8_apart 88 = .ok (.idiv, 1) := by decide +kernel
theorem dX8_apart_89 : decode cX8_apart 89 = .ok (.iadd, 1) := by decide +kernel
theorem dX8_apart_90 : decode cX8_apart 90 = .ok (.iaload, 1) := by decide +kernel
theorem dX8_apart_91 : decode cX8_apart 91 = .ok (.iload 4, 2) := by decide +kernel
theorem dX8_apart_93 : decode cX8_apart 93 = .ok (.bipush 6, 2) := by decide +kernel
theorem dX8_apart_95 : decode cX8_apart 95 = .ok (.irem, 1) := by decide +kernel
theorem dX8_apart_96 : decode cX8_apart 96 = .ok (.ishr, 1) := by decide +kernel
theorem dX8_apart_97 : decode cX8_apart 97 = .ok (.iconst 1, 1) := by decide +kernel
theorem dX8_apart_98 : decode cX8_apart 98 = .ok (.iand, 1) := by decide +kernel
theorem dX8_apart_99 : decode cX8_apart 99 = .ok (.iconst 1, 1) := by decide +kernel
theorem dX8_apart_100 : decode cX8_apart 100 = .ok (.if_icmp .ne 7, 3) := by decide +kernel
theorem dX8_apart_103 : decode cX8_apart 103 = .ok (.iconst 1, 1) := by decide +kernel
theorem dX8_apart_104 : decode cX8_apart 104 = .ok (.goto 4, 3) := by decide +kernel
theorem dX8_apart_107 : decode cX8_apart 107 = .ok (.iconst 0, 1) := by decide +kernel
theorem dX8_apart_108 : decode cX8_apart 108 = .ok (.istore 5, 2) := by decide +kernel
theorem dX8_apart_110 : decode cX8_apart 110 = .ok (.iload 5, 2) := by decide +kernel
theorem dX8_apart_112 : decode cX8_apart 112 = .ok (.ifCond .eq 18, 3) := by decide +kernel
theorem dX8_apart_115 : decode cX8_apart 115 = .ok (.aload_n 0, 1) := by decide +kernel
theorem dX8_apart_116 : decode cX8_apart 116 = .ok (.iload_n 1, 1) := by decide +kernel
theorem dX8_apart_117 : decode cX8_apart 117 = .ok (.iload_n 2, 1) := by decide +kernel
theorem dX8_apart_118 : decode cX8_apart 118 = .ok (.iload_n 3, 1) := by decide +kernel
theorem dX8_apart_119 : decode cX8_apart 119 = .ok (.iload 4, 2) := by decide +kernel
theorem dX8_apart_121 : decode cX8_apart 121 = .ok (.invokevirtual 271, 3) := by decide +kernel
theorem dX8_apart_124 : decode cX8_apart 124 = .ok (.ifCond .eq 6, 3) := by decide +kernel
theorem dX8_apart_127 : decode cX8_apart 127 = .ok (.iload 4, 2) := by decide +kernel
theorem dX8_apart_129 : decode cX8_apart 129 = .ok (.ireturn, 1) := by decide +kernel
theorem dX8_apart_130 : decode cX8_apart 130 = .ok (.iinc 4 1, 3) := by decide +kernel
theorem dX8_apart_133 : decode cX8_apart 133 = .ok (.goto (-75), 3) := by decide +kernel
theorem dX8_apart_136 : decode cX8_apart 136 = .ok (.ldc 95, 2) := by decide +kernel
theorem dX8_apart_138 : decode cX8_apart 138 = .ok (.ireturn, 1) := by decide +kernel
theorem dX8_layBegan_0 : decode cX8_layBegan 0 = .ok (.aload_n 0, 1) := by decide +kernel
theorem dX8_layBegan_1 : decode cX8_layBegan 1 = .ok (.invokevirtual 219, 3) := by decide +kernel
theorem dX8_layBegan_4 : decode cX8_layBegan 4 = .ok (.aload_n 0, 1) := by decide +kernel
theorem dX8_layBegan_5 : decode cX8_layBegan 5 = .ok (.iconst 0, 1) := by decide +kernel
theorem dX8_layBegan_6 : decode cX8_layBegan 6 = .ok (.putfield 192, 3) := by decide +kernel
theorem dX8_layBegan_9 : decode cX8_layBegan 9 = .ok (.iload_n 1, 1) := by decide +kernel
theorem dX8_layBegan_10 : decode cX8_layBegan 10 = .ok (.istore_n 2, 1) := by decide +kernel
theorem dX8_layBegan_11 : decode cX8_layBegan 11 = .ok (.aload_n 0, 1) := by decide +kernel
theorem dX8_layBegan_12 : decode cX8_layBegan 12 = .ok (.getfield 19, 3) := by decide +kernel
theorem dX8_layBegan_15 : decode cX8_layBegan 15 = .ok (.iconst 2, 1) := by decide +kernel
theorem dX8_layBegan_16 : decode cX8_layBegan 16 = .ok (.iaload, 1) := by decide +kernel
theorem dX8_layBegan_17 : decode cX8_layBegan 17 = .ok (.iconst 1, 1) := by decide +kernel
theorem dX8_layBegan_18 : decode cX8_layBegan 18 = .ok (.isub, 1) := by decide +kernel
theorem dX8_layBegan_19 : decode cX8_layBegan 19 = .ok (.istore_n 3, 1) := by decide +kernel
theorem dX8_layBegan_20 : decode cX8_layBegan 20 = .ok (.iload_n 3, 1) := by decide +kernel
theorem dX8_layBegan_21 : decode cX8_layBegan 21 = .ok (.ifCond .lt 32, 3) := by decide +kernel
theorem dX8_layBegan_24 : decode cX8_layBegan 24 = .ok (.aload_n 0, 1) := by decide +kernel
theorem dX8_layBegan_25 : decode cX8_layBegan 25 = .ok (.getfield 31, 3) := by decide +kernel
theorem dX8_layBegan_28 : decode cX8_layBegan 28 = .ok (.iload_n 3, 1) := by decide +kernel
theorem dX8_layBegan_29 : decode cX8_layBegan 29 = .ok (.iload_n 2, 1) := by decide +kernel
theorem dX8_layBegan_30 : decode cX8_layBegan 30 = .ok (.aload_n 0, 1) := by decide +kernel
theorem dX8_layBegan_31 : decode cX8_layBegan 31 = .ok (.getfield 19, 3) := by decide +kernel
theorem dX8_layBegan_34 : decode cX8_layBegan 34 = .ok (.iconst 0, 1) := by decide +kernel
theorem dX8_layBegan_35 : decode cX8_layBegan 35 = .ok (.iaload, 1) := by decide +kernel
theorem dX8_layBegan_36 : decode cX8_layBegan 36 = .ok (.irem, 1) := by decide +kernel
theorem dX8_layBegan_37 : decode cX8_layBegan 37 = .ok (.iastore, 1) := by decide +kernel
theorem dX8_layBegan_38 : decode cX8_layBegan 38 = .ok (.iload_n 2, 1) := by decide +kernel
theorem dX8_layBegan_39 : decode cX8_layBegan 39 = .ok (.aload_n 0, 1) := by decide +kernel
theorem dX8_layBegan_40 : decode cX8_layBegan 40 = .ok (.getfield 19, 3) := by decide +kernel
theorem dX8_layBegan_43 : decode cX8_layBegan 43 = .ok (.iconst 0, 1) := by decide +kernel
theorem dX8_layBegan_44 : decode cX8_layBegan 44 = .ok (.iaload, 1) := by decide +kernel
theorem dX8_layBegan_45 : decode cX8_layBegan 45 = .ok (.idiv, 1) := by decide +kernel
theorem dX8_layBegan_46 : decode cX8_layBegan 46 = .ok (.istore_n 2, 1) := by decide +kernel
theorem dX8_layBegan_47 : decode cX8_layBegan 47 = .ok (.iinc 3 (-1), 3) := by decide +kernel
theorem dX8_layBegan_50 : decode cX8_layBegan 50 = .ok (.goto (-30), 3) := by decide +kernel
theorem dX8_layBegan_53 : decode cX8_layBegan 53 = .ok (.return_, 1) := by decide +kernel
theorem dX8_began_0 : decode cX8_began 0 = .ok (.aload_n 0, 1) := by decide +kernel
theorem dX8_began_1 : decode cX8_began 1 = .ok (.iconst 0, 1) := by decide +kernel
theorem dX8_began_2 : decode cX8_began 2 = .ok (.putfield 59, 3) := by decide +kernel
theorem dX8_began_5 : decode cX8_began 5 = .ok (.aload_n 0, 1) := by decide +kernel
theorem dX8_began_6 : decode cX8_began 6 = .ok (.invokevirtual 222, 3) := by decide +kernel
theorem dX8_began_9 : decode cX8_began 9 = .ok (.ifCond .ne 6, 3) := by decide +kernel
theorem dX8_began_12 : decode cX8_began 12 = .ok (.ldc 226, 2) := by decide +kernel
theorem dX8_began_14 : decode cX8_began 14 = .ok (.ireturn, 1) := by decide +kernel
theorem dX8_began_15 : decode cX8_began 15 = .ok (.iload_n 1, 1) := by decide +kernel
theorem dX8_began_16 : decode cX8_began 16 = .ok (.i2l, 1) := by decide +kernel
theorem dX8_began_17 : decode cX8_began 17 = .ok (.ldc2_w 275, 3) := by decide +kernel
theorem dX8_began_20 : decode cX8_began 20 = .ok (.aload_n 0, 1) := by decide +kernel
theorem dX8_began_21 : decode cX8_began 21 = .ok (.getfield 19, 3) := by decide +kernel
theorem dX8_began_24 : decode cX8_began 24 = .ok (.iconst 2, 1) := by decide +kernel
theorem dX8_began_25 : decode cX8_began 25 = .ok (.iaload, 1) := by decide +kernel
theorem dX8_began_26 : decode cX8_began 26 = .ok (.iconst 1, 1) := by decide +kernel
theorem dX8_began_27 : decode cX8_began 27 = .ok (.isub, 1) := by decide +kernel
theorem dX8_began_28 : decode cX8_began 28 = .ok (.i2l, 1) := by decide +kernel
theorem dX8_began_29 : decode cX8_began 29 = .ok (.invokestatic 69, 3) := by decide +kernel
theorem dX8_began_32 : decode cX8_began 32 = .ok (.ifCond .eq 15, 3) := by decide +kernel
theorem dX8_began_35 : decode cX8_began 35 = .ok (.iload_n 2, 1) := by decide +kernel
theorem dX8_began_36 : decode cX8_began 36 = .ok (.i2l, 1) := by decide +kernel
theorem dX8_began_37 : decode cX8_began 37 = .ok (.lconst 0, 1) := by decide +kernel
theorem dX8_began_38 : decode cX8_began 38 = .ok (.ldc2_w 277, 3) := by decide +kernel
theorem dX8_began_41 : decode cX8_began 41 = .ok (.invokestatic 69, 3) := by decide +kernel
theorem dX8_began_44 : decode cX8_began 44 = .ok (.ifCond .ne 6, 3) := by decide +kernel
theorem dX8_began_47 : decode cX8_began 47 = .ok (.ldc 79, 2) := by decide +kernel
theorem dX8_began_49 : decode cX8_began 49 = .ok (.ireturn, 1) := by decide +kernel
theorem dX8_began_50 : decode cX8_began 50 = .ok (.iconst 1, 1) := by decide +kernel
theorem dX8_began_51 : decode cX8_began 51 = .ok (.istore_n 3, 1) := by decide +kernel
theorem dX8_began_52 : decode cX8_began 52 = .ok (.iconst 0, 1) := by decide +kernel
theorem dX8_began_53 : decode cX8_began 53 = .ok (.istore 4, 2) := by decide +kernel
theorem dX8_began_55 : decode cX8_began 55 = .ok (.iload 4, 2) := by decide +kernel
theorem dX8_began_57 : decode cX8_began 57 = .ok (.aload_n 0, 1) := by decide +kernel
theorem dX8_began_58 : decode cX8_began 58 = .ok (.getfield 19, 3) := by decide +kernel
theorem dX8_began_61 : decode cX8_began 61 = .ok (.iconst 2, 1) := by decide +kernel
theorem dX8_began_62 : decode cX8_began 62 = .ok (.iaload, 1) := by decide +kernel
theorem dX8_began_63 : decode cX8_began 63 = .ok (.if_icmp .ge 18, 3) := by decide +kernel
theorem dX8_began_66 : decode cX8_began 66 = .ok (.iload_n 3, 1) := by decide +kernel
theorem dX8_began_67 : decode cX8_began 67 = .ok (.aload_n 0, 1) := by decide +kernel
theorem dX8_began_68 : decode cX8_began 68 = .ok (.getfield 19, 3) := by decide +kernel
theorem dX8_began_71 : decode cX8_began 71 = .ok (.iconst 0, 1) := by decide +kernel
theorem dX8_began_72 : decode cX8_began 72 = .ok (.iaload, 1) := by decide +kernel
theorem dX8_began_73 : decode cX8_began 73 = .ok (.imul, 1) := by decide +kernel
theorem dX8_began_74 : decode cX8_began 74 = .ok (.istore_n 3, 1) := by decide +kernel
theorem dX8_began_75 : decode cX8_began 75 = .ok (.iinc 4 1, 3) := by decide +kernel
theorem dX8_began_78 : decode cX8_began 78 = .ok (.goto (-23), 3) := by decide +kernel
theorem dX8_began_81 : decode cX8_began 81 = .ok (.iconst 0, 1) := by decide +kernel
theorem dX8_began_82 : decode cX8_began 82 = .ok (.istore 4, 2) := by decide +kernel
theorem dX8_began_84 : decode cX8_began 84 = .ok (.ldc 95, 2) := by decide +kernel
theorem dX8_began_86 : decode cX8_began 86 = .ok (.istore 5, 2) := by decide +kernel
theorem dX8_began_88 : decode cX8_began 88 = .ok (.iconst 0, 1) := by decide +kernel
theorem dX8_began_89 : decode cX8_began 89 = .ok (.istore 6, 2) := by decide +kernel
theorem dX8_began_91 : decode cX8_began 91 = .ok (.iload 6, 2) := by decide +kernel
theorem dX8_began_93 : decode cX8_began 93 = .ok (.iload_n 3, 1) := by decide +kernel
theorem dX8_began_94 : decode cX8_began 94 = .ok (.if_icmp .ge 108, 3) := by decide +kernel
theorem dX8_began_97 : decode cX8_began 97 = .ok (.aload_n 0, 1) := by decide +kernel
theorem dX8_began_98 : decode cX8_began 98 = .ok (.iload 6, 2) := by decide +kernel
theorem dX8_began_100 : decode cX8_began 100 = .ok (.invokevirtual 279, 3) := by decide +kernel
theorem dX8_began_103 : decode cX8_began 103 = .ok (.aload_n 0, 1) := by decide +kernel
theorem dX8_began_104 : decode cX8_began 104 = .ok (.iload_n 2, 1) := by decide +kernel
theorem dX8_began_105 : decode cX8_began 105 = .ok (.invokevirtual 249, 3) := by decide +kernel
theorem dX8_began_108 : decode cX8_began 108 = .ok (.iconst 1, 1) := by decide +kernel
theorem dX8_began_109 : decode cX8_began 109 = .ok (.istore 7, 2) := by decide +kernel
theorem dX8_began_111 : decode cX8_began 111 = .ok (.iconst 0, 1) := by decide +kernel
theorem dX8_began_112 : decode cX8_began 112 = .ok (.istore 8, 2) := by decide +kernel
theorem dX8_began_114 : decode cX8_began 114 = .ok (.iload 8, 2) := by decide +kernel
theorem dX8_began_116 : decode cX8_began 116 = .ok (.aload_n 0, 1) := by decide +kernel
theorem dX8_began_117 : decode cX8_began 117 = .ok (.getfield 19, 3) := by decide +kernel
theorem dX8_began_120 : decode cX8_began 120 = .ok (.iconst 2, 1) := by decide +kernel
theorem dX8_began_121 : decode cX8_began 121 = .ok (.iaload, 1) := by decide +kernel
theorem dX8_began_122 : decode cX8_began 122 = .ok (.if_icmp .ge 38, 3) := by decide +kernel
theorem dX8_began_125 : decode cX8_began 125 = .ok (.iload 7, 2) := by decide +kernel
theorem dX8_began_127 : decode cX8_began 127 = .ok (.ifCond .eq 24, 3) := by decide +kernel
theorem dX8_began_130 : decode cX8_began 130 = .ok (.aload_n 0, 1) := by decide +kernel
theorem dX8_began_131 : decode cX8_began 131 = .ok (.getfield 31, 3) := by decide +kernel
theorem dX8_began_134 : decode cX8_began 134 = .ok (.iload 8, 2) := by decide +kernel
theorem dX8_began_136 : decode cX8_began 136 = .ok (.iaload, 1) := by decide +kernel
theorem dX8_began_137 : decode cX8_began 137 = .ok (.aload_n 0, 1) := by decide +kernel
theorem dX8_began_138 : decode cX8_began 138 = .ok (.iload 8, 2) := by decide +kernel
theorem dX8_began_140 : decode cX8_began 140 = .ok (.iconst 1, 1) := by decide +kernel
theorem dX8_began_141 : decode cX8_began 141 = .ok (.invokevirtual 201, 3) := by decide +kernel
theorem dX8_began_144 : decode cX8_began 144 = .ok (.if_icmp .ne 7, 3) := by decide +kernel
theorem dX8_began_147 : decode cX8_began 147 = .ok (.iconst 1, 1) := by decide +kernel
theorem dX8_began_148 : decode cX8_began 148 = .ok (.goto 4, 3) := by decide +kernel
theorem dX8_began_151 : decode cX8_began 151 = .ok (.iconst 0, 1) := by decide +kernel
theorem dX8_began_152 : decode cX8_began 152 = .ok (.istore 7, 2) := by decide +kernel
theorem dX8_began_154 : decode cX8_began 154 = .ok (.iinc 8 1, 3) := by decide +kernel
theorem dX8_began_157 : decode cX8_began 157 = .ok (.goto (-43), 3) := by decide +kernel
theorem dX8_began_160 : decode cX8_began 160 = .ok (.iload 4, 2) := by decide +kernel
theorem dX8_began_162 : decode cX8_began 162 = .ok (.iload 7, 2) := by decide +kernel
theorem dX8_began_164 : decode cX8_began 164 = .ok (.ifCond .eq 7, 3) := by decide +kernel
theorem dX8_began_167 : decode cX8_began 167 = .ok (.iconst 1, 1) := by decide +kernel
theorem dX8_began_168 : decode cX8_began 168 = .ok (.goto 4, 3) := by decide +kernel
theorem dX8_began_171 : decode cX8_began 171 = .ok (.iconst 0, 1) := by decide +kernel
theorem dX8_began_172 : decode cX8_began 172 = .ok (.iadd, 1) := by decide +kernel
theorem dX8_began_173 : decode cX8_began 173 = .ok (.istore 4, 2) := by decide +kernel
theorem dX8_began_175 : decode cX8_began 175 = .ok (.iload 7, 2) := by decide +kernel
theorem dX8_began_177 : decode cX8_began 177 = .ok (.ifCond .eq 15, 3) := by decide +kernel
theorem dX8_began_180 : decode cX8_began 180 = .ok (.iload 5, 2) := by decide +kernel
theorem dX8_began_182 : decode cX8_began 182 = .ok (.ldc 95, 2) := by decide +kernel
theorem dX8_began_184 : decode cX8_began 184 = .ok (.if_icmp .ne 8, 3) := by decide +kernel
theorem dX8_began_187 : decode cX8_began 187 = .ok (.iload 6, 2) := by decide +kernel
theorem dX8_began_189 : decode cX8_began 189 = .ok (.goto 5, 3) := by decide +kernel
theorem dX8_began_192 : decode cX8_began 192 = .ok (.iload 5, 2) := by decide +kernel
theorem dX8_began_194 : decode cX8_began 194 = .ok (.istore 5, 2) := by decide +kernel
theorem dX8_began_196 : decode cX8_began 196 = .ok (.iinc 6 1, 3) := by decide +kernel
theorem dX8_began_199 : decode cX8_began 199 = .ok (.goto (-108), 3) := by decide +kernel
theorem dX8_began_202 : decode cX8_began 202 = .ok (.iload_n 1, 1) := by decide +kernel
theorem dX8_began_203 : decode cX8_began 203 = .ok (.ifCond .lt 10, 3) := by decide +kernel
theorem dX8_began_206 : decode cX8_began 206 = .ok (.iload 5, 2) := by decide +kernel
theorem dX8_began_208 : decode cX8_began 208 = .ok (.ldc 95, 2) := by decide +kernel
theorem dX8_began_210 : decode cX8_began 210 = .ok (.if_icmp .ne 15, 3) := by decide +kernel
theorem dX8_began_213 : decode cX8_began 213 = .ok (.iload_n 1, 1) := by decide +kernel
theorem dX8_began_214 : decode cX8_began 214 = .ok (.ifCond .ge 8, 3) := by decide +kernel
theorem dX8_began_217 : decode cX8_began 217 = .ok (.iload 4, 2) := by decide +kernel
theorem dX8_began_219 : decode cX8_began 219 = .ok (.goto 5, 3) := by decide +kernel
theorem dX8_began_222 : decode cX8_began 222 = .ok (.ldc 95, 2) := by decide +kernel
theorem dX8_began_224 : decode cX8_began 224 = .ok (.ireturn, 1) := by decide +kernel
theorem dX8_began_225 : decode cX8_began 225 = .ok (.aload_n 0, 1) := by decide +kernel
theorem dX8_began_226 : decode cX8_began 226 = .ok (.iload 5, 2) := by decide +kernel
theorem dX8_began_228 : decode cX8_began 228 = .ok (.invokevirtual 279, 3) := by decide +kernel
theorem dX8_began_231 : decode cX8_began 231 = .ok (.aload_n 0, 1) := by decide +kernel
theorem dX8_began_232 : decode cX8_began 232 = .ok (.getfield 31, 3) := by decide +kernel
theorem dX8_began_235 : decode cX8_began 235 = .ok (.iload_n 1, 1) := by decide +kernel
theorem dX8_began_236 : decode cX8_began 236 = .ok (.iaload, 1) := by decide +kernel
theorem dX8_began_237 : decode cX8_began 237 = .ok (.ireturn, 1) := by decide +kernel
theorem dX8_image_0 : decode cX8_image 0 = .ok (.aload_n 0, 1) := by decide +kernel
theorem dX8_image_1 : decode cX8_image 1 = .ok (.iconst 0, 1) := by decide +kernel
theorem dX8_image_2 : decode cX8_image 2 = .ok (.putfield 59, 3) := by decide +kernel
theorem dX8_image_5 : decode cX8_image 5 = .ok (.iload_n 1, 1) := by decide +kernel
theorem dX8_image_6 : decode cX8_image 6 = .ok (.i2l, 1) := by decide +kernel
theorem dX8_image_7 : decode cX8_image 7 = .ok (.lconst 0, 1) := by decide +kernel
theorem dX8_image_8 : decode cX8_image 8 = .ok (.lconst 1, 1) := by decide +kernel
theorem dX8_image_9 : decode cX8_image 9 = .ok (.invokestatic 69, 3) := by decide +kernel
theorem dX8_image_12 : decode cX8_image 12 = .ok (.ifCond .ne 6, 3) := by decide +kernel
theorem dX8_image_15 : decode cX8_image 15 = .ok (.ldc 79, 2) := by decide +kernel
theorem dX8_image_17 : decode cX8_image 17 = .ok (.ireturn, 1) := by decide +kernel
theorem dX8_image_18 : decode cX8_image 18 = .ok (.aload_n 0, 1) := by decide +kernel
theorem dX8_image_19 : decode cX8_image 19 = .ok (.invokevirtual 222, 3) := by decide +kernel
theorem dX8_image_22 : decode cX8_image 22 = .ok (.ifCond .ne 6, 3) := by decide +kernel
theorem dX8_image_25 : decode cX8_image 25 = .ok (.ldc 226, 2) := by decide +kernel
theorem dX8_image_27 : decode cX8_image 27 = .ok (.ireturn, 1) := by decide +kernel
theorem dX8_image_28 : decode cX8_image 28 = .ok (.iconst 0, 1) := by decide +kernel
theorem dX8_image_29 : decode cX8_image 29 = .ok (.istore_n 2, 1) := by decide +kernel
theorem dX8_image_30 : decode cX8_image 30 = .ok (.iload_n 2, 1) := by decide +kernel
theorem dX8_image_31 : decode cX8_image 31 = .ok (.bipush 37, 2) := by decide +kernel
theorem dX8_image_33 : decode cX8_image 33 = .ok (.if_icmp .ge 26, 3) := by decide +kernel
theorem dX8_image_36 : decode cX8_image 36 = .ok (.aload_n 0, 1) := by decide +kernel
theorem dX8_image_37 : decode cX8_image 37 = .ok (.getfield 53, 3) := by decide +kernel
theorem dX8_image_40 : decode cX8_image 40 = .ok (.bipush 37, 2) := by decide +kernel
theorem dX8_image_42 : decode cX8_image 42 = .ok (.iload_n 1, 1) := by decide +kernel
theorem dX8_image_43 : decode cX8_image 43 = .ok (.imul, 1) := by decide +kernel
theorem dX8_image_44 : decode cX8_image 44 = .ok (.iload_n 2, 1) := by decide +kernel
theorem dX8_image_45 : decode cX8_image 45 = .ok (.iadd, 1) := by decide +kernel
theorem dX8_image_46 : decode cX8_image 46 = .ok (.aload_n 0, 1) := by decide +kernel
theorem dX8_image_47 : decode cX8_image 47 = .ok (.getfield 19, 3) := by decide +kernel
theorem dX8_image_50 : decode cX8_image 50 = .ok (.iload_n 2, 1) := by decide +kernel
theorem dX8_image_51 : decode cX8_image 51 = .ok (.iaload, 1) := by decide +kernel
theorem dX8_image_52 : decode cX8_image 52 = .ok (.iastore, 1) := by decide +kernel
theorem dX8_image_53 : decode cX8_image 53 = .ok (.iinc 2 1, 3) := by decide +kernel
theorem dX8_image_56 : decode cX8_image 56 = .ok (.goto (-26), 3) := by decide +kernel
theorem dX8_image_59 : decode cX8_image 59 = .ok (.aload_n 0, 1) := by decide +kernel
theorem dX8_image_60 : decode cX8_image 60 = .ok (.getfield 49, 3) := by decide +kernel
theorem dX8_image_63 : decode cX8_image 63 = .ok (.iload_n 1, 1) := by decide +kernel
theorem dX8_image_64 : decode cX8_image 64 = .ok (.iconst 1, 1) := by decide +kernel
theorem dX8_image_65 : decode cX8_image 65 = .ok (.bastore, 1) := by decide +kernel
theorem dX8_image_66 : decode cX8_image 66 = .ok (.iconst 1, 1) := by decide +kernel
theorem dX8_image_67 : decode cX8_image 67 = .ok (.ireturn, 1) := by decide +kernel
theorem dX8_restore_0 : decode cX8_restore 0 = .ok (.aload_n 0, 1) := by decide +kernel
theorem dX8_restore_1 : decode cX8_restore 1 = .ok (.iconst 0, 1) := by decide +kernel
theorem dX8_restore_2 : decode cX8_restore 2 = .ok (.putfield 59, 3) := by decide +kernel
theorem dX8_restore_5 : decode cX8_restore 5 = .ok (.iload_n 1, 1) := by decide +kernel
theorem dX8_restore_6 : decode cX8_restore 6 = .ok (.i2l, 1) := by decide +kernel
theorem dX8_restore_7 : decode cX8_restore 7 = .ok (.lconst 0, 1) := by decide +kernel
theorem dX8_restore_8 : decode cX8_restore 8 = .ok (.lconst 1, 1) := by decide +kernel
theorem dX8_restore_9 : decode cX8_restore 9 = .ok (.invokestatic 69, 3) := by decide +kernel
theorem dX8_restore_12 : decode cX8_restore 12 = .ok (.ifCond .ne 6, 3) := by decide +kernel
theorem dX8_restore_15 : decode cX8_restore 15 = .ok (.ldc 79, 2) := by decide +kernel
theorem dX8_restore_17 : decode cX8_restore 17 = .ok (.ireturn, 1) := by decide +kernel
theorem dX8_restore_18 : decode cX8_restore 18 = .ok (.aload_n 0, 1) := by decide +kernel
theorem dX8_restore_19 : decode cX8_restore 19 = .ok (.getfield 49, 3) := by decide +kernel
theorem dX8_restore_22 : decode cX8_restore 22 = .ok (.iload_n 1, 1) := by decide +kernel
theorem dX8_restore_23 : decode cX8_restore 23 = .ok (.baload, 1) := by decide +kernel
theorem dX8_restore_24 : decode cX8_restore 24 = .ok (.ifCond .ne 6, 3) := by decide +kernel
theorem dX8_restore_27 : decode cX8_restore 27 = .ok (.ldc 226, 2) := by decide +kernel
theorem dX8_restore_29 : decode cX8_restore 29 = .ok (.ireturn, 1) := by decide +kernel
theorem dX8_restore_30 : decode cX8_restore 30 = .ok (.iconst 0, 1) := by decide +kernel
theorem dX8_restore_31 : decode cX8_restore 31 = .ok (.istore_n 2, 1) := by decide +kernel
theorem dX8_restore_32 : decode cX8_restore 32 = .ok (.iload_n 2, 1) := by decide +kernel
theorem dX8_restore_33 : decode cX8_restore 33 = .ok (.bipush 37, 2) := by decide +kernel
theorem dX8_restore_35 : decode cX8_restore 35 = .ok (.if_icmp .ge 26, 3) := by decide +kernel
theorem dX8_restore_38 : decode cX8_restore 38 = .ok (.aload_n 0, 1) := by decide +kernel
theorem dX8_restore_39 : decode cX8_restore 39 = .ok (.getfield 19, 3) := by decide +kernel
theorem dX8_restore_42 : decode cX8_restore 42 = .ok (.iload_n 2, 1) := by decide +kernel
theorem dX8_restore_43 : decode cX8_restore 43 = .ok (.aload_n 0, 1) := by decide +kernel
theorem dX8_restore_44 : decode cX8_restore 44 = .ok (.getfield 53, 3) := by decide +kernel
theorem dX8_restore_47 : decode cX8_restore 47 = .ok (.bipush 37, 2) := by decide +kernel
theorem dX8_restore_49 : decode cX8_restore 49 = .ok (.iload_n 1, 1) := by decide +kernel
theorem dX8_restore_50 : decode cX8_restore 50 = .ok (.imul, 1) := by decide +kernel
theorem dX8_restore_51 : decode cX8_restore 51 = .ok (.iload_n 2, 1) := by decide +kernel
theorem dX8_restore_52 : decode cX8_restore 52 = .ok (.iadd, 1) := by decide +kernel
theorem dX8_restore_53 : decode cX8_restore 53 = .ok (.iaload, 1) := by decide +kernel
theorem dX8_restore_54 : decode cX8_restore 54 = .ok (.iastore, 1) := by decide +kernel
theorem dX8_restore_55 : decode cX8_restore 55 = .ok (.iinc 2 1, 3) := by decide +kernel
theorem dX8_restore_58 : decode cX8_restore 58 = .ok (.goto (-26), 3) := by decide +kernel
theorem dX8_restore_61 : decode cX8_restore 61 = .ok (.aload_n 0, 1) := by decide +kernel
theorem dX8_restore_62 : decode cX8_restore 62 = .ok (.iconst 0, 1) := by decide +kernel
theorem dX8_restore_63 : decode cX8_restore 63 = .ok (.putfield 189, 3) := by decide +kernel
theorem dX8_restore_66 : decode cX8_restore 66 = .ok (.iconst 1, 1) := by decide +kernel
theorem dX8_restore_67 : decode cX8_restore 67 = .ok (.ireturn, 1) := by decide +kernel
theorem dX8_isOf_0 : decode cX8_isOf 0 = .ok (.iload_n 1, 1) := by decide +kernel
theorem dX8_isOf_1 : decode cX8_isOf 1 = .ok (.ifCond .eq 28, 3) := by decide +kernel
theorem dX8_isOf_4 : decode cX8_isOf 4 = .ok (.iload_n 0, 1) := by decide +kernel
theorem dX8_isOf_5 : decode cX8_isOf 5 = .ok (.iload_n 1, 1) := by decide +kernel
theorem dX8_isOf_6 : decode cX8_isOf 6 = .ok (.if_icmp .eq 23, 3) := by decide +kernel
theorem dX8_isOf_9 : decode cX8_isOf 9 = .ok (.iload_n 1, 1) := by decide +kernel
theorem dX8_isOf_10 : decode cX8_isOf 10 = .ok (.iconst 1, 1) := by decide +kernel
theorem dX8_isOf_11 : decode cX8_isOf 11 = .ok (.if_icmp .ne 8, 3) := by decide +kernel
theorem dX8_isOf_14 : decode cX8_isOf 14 = .ok (.iload_n 0, 1) := by decide +kernel
theorem dX8_isOf_15 : decode cX8_isOf 15 = .ok (.iconst 4, 1) := by decide +kernel
theorem dX8_isOf_16 : decode cX8_isOf 16 = .ok (.if_icmp .lt 13, 3) := by decide +kernel
theorem dX8_isOf_19 : decode cX8_isOf 19 = .ok (.iload_n 1, 1) := by decide +kernel
theorem dX8_isOf_20 : decode cX8_isOf 20 = .ok (.iconst 4, 1) := by decide +kernel
theorem dX8_isOf_21 : decode cX8_isOf 21 = .ok (.if_icmp .ne 12, 3) := by decide +kernel
theorem dX8_isOf_24 : decode cX8_isOf 24 = .ok (.iload_n 0, 1) := by decide +kernel
theorem dX8_isOf_25 : decode cX8_isOf 25 = .ok (.iconst 5, 1) := by decide +kernel
theorem dX8_isOf_26 : decode cX8_isOf 26 = .ok (.if_icmp .ne 7, 3) := by decide +kernel
theorem dX8_isOf_29 : decode cX8_isOf 29 = .ok (.iconst 1, 1) := by decide +kernel
theorem dX8_isOf_30 : decode cX8_isOf 30 = .ok (.goto 4, 3) := by decide +kernel
theorem dX8_isOf_33 : decode cX8_isOf 33 = .ok (.iconst 0, 1) := by decide +kernel
theorem dX8_isOf_34 : decode cX8_isOf 34 = .ok (.ireturn, 1) := by decide +kernel
theorem dX8_kind_0 : decode cX8_kind 0 = .ok (.aload_n 0, 1) := by decide +kernel
theorem dX8_kind_1 : decode cX8_kind 1 = .ok (.iconst 0, 1) := by decide +kernel
theorem dX8_kind_2 : decode cX8_kind 2 = .ok (.putfield 59, 3) := by decide +kernel
theorem dX8_kind_5 : decode cX8_kind 5 = .ok (.aload_n 0, 1) := by decide +kernel
theorem dX8_kind_6 : decode cX8_kind 6 = .ok (.iload_n 1, 1) := by decide +kernel
theorem dX8_kind_7 : decode cX8_kind 7 = .ok (.invokevirtual 242, 3) := by decide +kernel
theorem dX8_kind_10 : decode cX8_kind 10 = .ok (.ifCond .eq 12, 3) := by decide +kernel
theorem dX8_kind_13 : decode cX8_kind 13 = .ok (.aload_n 0, 1) := by decide +kernel
theorem dX8_kind_14 : decode cX8_kind 14 = .ok (.iload_n 1, 1) := by decide +kernel
theorem dX8_kind_15 : decode cX8_kind 15 = .ok (.iconst 0, 1) := by decide +kernel
theorem dX8_kind_16 : decode cX8_kind 16 = .ok (.invokevirtual 201, 3) := by decide +kernel
theorem dX8_kind_19 : decode cX8_kind 19 = .ok (.goto 5, 3) := by decide +kernel
theorem dX8_kind_22 : decode cX8_kind 22 = .ok (.ldc 79, 2) := by decide +kernel
theorem dX8_kind_24 : decode cX8_kind 24 = .ok (.ireturn, 1) := by decide +kernel
theorem dX8_as_0 : decode cX8_as 0 = .ok (.aload_n 0, 1) := by decide +kernel
theorem dX8_as_1 : decode cX8_as 1 = .ok (.iconst 0, 1) := by decide +kernel
theorem dX8_as_2 : decode cX8_as 2 = .ok (.putfield 59, 3) := by decide +kernel
theorem dX8_as_5 : decode cX8_as 5 = .ok (.aload_n 0, 1) := by decide +kernel
theorem dX8_as_6 : decode cX8_as 6 = .ok (.iload_n 1, 1) := by decide +kernel
theorem dX8_as_7 : decode cX8_as 7 = .ok (.invokevirtual 242, 3) := by decide +kernel
theorem dX8_as_10 : decode cX8_as 10 = .ok (.ifCond .eq 15, 3) := by decide +kernel
theorem dX8_as_13 : decode cX8_as 13 = .ok (.iload_n 2, 1) := by decide +kernel
theorem dX8_as_14 : decode cX8_as 14 = .ok (.i2l, 1) := by decide +kernel
theorem dX8_as_15 : decode cX8_as 15 = .ok (.lconst 0, 1) := by decide +kernel
theorem dX8_as_16 : decode cX8_as 16 = .ok (.ldc2_w 282, 3) := by decide +kernel
theorem dX8_as_19 : decode cX8_as 19 = .ok (.invokestatic 69, 3) := by decide +kernel
theorem dX8_as_22 : decode cX8_as 22 = .ok (.ifCond .ne 6, 3) := by decide +kernel
theorem dX8_as_25 : decode cX8_as 25 = .ok (.ldc 79, 2) := by decide +kernel
theorem dX8_as_27 : decode cX8_as 27 = .ok (.ireturn, 1) := by decide +kernel
theorem dX8_as_28 : decode cX8_as 28 = .ok (.aload_n 0, 1) := by decide +kernel
theorem dX8_as_29 : decode cX8_as 29 = .ok (.iconst 0, 1) := by decide +kernel
theorem dX8_as_30 : decode cX8_as 30 = .ok (.putfield 63, 3) := by decide +kernel
theorem dX8_as_33 : decode cX8_as 33 = .ok (.aload_n 0, 1) := by decide +kernel
theorem dX8_as_34 : decode cX8_as 34 = .ok (.iload_n 1, 1) := by decide +kernel
theorem dX8_as_35 : decode cX8_as 35 = .ok (.iconst 0, 1) := by decide +kernel
theorem dX8_as_36 : decode cX8_as 36 = .ok (.invokevirtual 201, 3) := by decide +kernel
theorem dX8_as_39 : decode cX8_as 39 = .ok (.iload_n 2, 1) := by decide +kernel
theorem dX8_as_40 : decode cX8_as 40 = .ok (.invokestatic 284, 3) := by decide +kernel
theorem dX8_as_43 : decode cX8_as 43 = .ok (.ifCond .eq 7, 3) := by decide +kernel
theorem dX8_as_46 : decode cX8_as 46 = .ok (.iload_n 1, 1) := by decide +kernel
theorem dX8_as_47 : decode cX8_as 47 = .ok (.goto 8, 3) := by decide +kernel
theorem dX8_as_50 : decode cX8_as 50 = .ok (.aload_n 0, 1) := by decide +kernel
theorem dX8_as_51 : decode cX8_as 51 = .ok (.iconst 3, 1) := by decide +kernel
theorem dX8_as_52 : decode cX8_as 52 = .ok (.invokevirtual 80, 3) := by decide +kernel
theorem dX8_as_55 : decode cX8_as 55 = .ok (.ireturn, 1) := by decide +kernel
theorem dX8_stepped_0 : decode cX8_stepped 0 = .ok (.aload_n 0, 1) := by decide +kernel
