/-! decode rows: X5 -/
theorem dX5_init_0 : decode cX5_init 0 = .ok (.aload_n 0, 1) := by decide +kernel
theorem dX5_init_1 : decode cX5_init 1 = .ok (.invokespecial 3, 3) := by decide +kernel
theorem dX5_init_4 : decode cX5_init 4 = .ok (.aload_n 0, 1) := by decide +kernel
theorem dX5_init_5 : decode cX5_init 5 = .ok (.bipush 40, 2) := by decide +kernel
theorem dX5_init_7 : decode cX5_init 7 = .ok (.newarray .int, 2) := by decide +kernel
theorem dX5_init_9 : decode cX5_init 9 = .ok (.putfield 9, 3) := by decide +kernel
theorem dX5_init_12 : decode cX5_init 12 = .ok (.return_, 1) := by decide +kernel
theorem dX5_make_0 : decode cX5_make 0 = .ok (.aload_n 0, 1) := by decide +kernel
theorem dX5_make_1 : decode cX5_make 1 = .ok (.iconst 1, 1) := by decide +kernel
theorem dX5_make_2 : decode cX5_make 2 = .ok (.putfield 15, 3) := by decide +kernel
theorem dX5_make_5 : decode cX5_make 5 = .ok (.aload_n 0, 1) := by decide +kernel
theorem dX5_make_6 : decode cX5_make 6 = .ok (.iload_n 1, 1) := by decide +kernel
theorem dX5_make_7 : decode cX5_make 7 = .ok (.putfield 19, 3) := by decide +kernel
theorem dX5_make_10 : decode cX5_make 10 = .ok (.aload_n 0, 1) := by decide +kernel
theorem dX5_make_11 : decode cX5_make 11 = .ok (.iload_n 2, 1) := by decide +kernel
theorem dX5_make_12 : decode cX5_make 12 = .ok (.putfield 23, 3) := by decide +kernel
theorem dX5_make_15 : decode cX5_make 15 = .ok (.iconst 0, 1) := by decide +kernel
theorem dX5_make_16 : decode cX5_make 16 = .ok (.istore_n 3, 1) := by decide +kernel
theorem dX5_make_17 : decode cX5_make 17 = .ok (.iload_n 3, 1) := by decide +kernel
theorem dX5_make_18 : decode cX5_make 18 = .ok (.iload_n 2, 1) := by decide +kernel
theorem dX5_make_19 : decode cX5_make 19 = .ok (.if_icmp .ge 16, 3) := by decide +kernel
theorem dX5_make_22 : decode cX5_make 22 = .ok (.aload_n 0, 1) := by decide +kernel
theorem dX5_make_23 : decode cX5_make 23 = .ok (.getfield 9, 3) := by decide +kernel
theorem dX5_make_26 : decode cX5_make 26 = .ok (.iload_n 3, 1) := by decide +kernel
theorem dX5_make_27 : decode cX5_make 27 = .ok (.iconst 0, 1) := by decide +kernel
theorem dX5_make_28 : decode cX5_make 28 = .ok (.iastore, 1) := by decide +kernel
theorem dX5_make_29 : decode cX5_make 29 = .ok (.iinc 3 1, 3) := by decide +kernel
theorem dX5_make_32 : decode cX5_make 32 = .ok (.goto (-15), 3) := by decide +kernel
theorem dX5_make_35 : decode cX5_make 35 = .ok (.return_, 1) := by decide +kernel
theorem dX5_holds_0 : decode cX5_holds 0 = .ok (.iload_n 2, 1) := by decide +kernel
theorem dX5_holds_1 : decode cX5_holds 1 = .ok (.ifCond .lt 29, 3) := by decide +kernel
theorem dX5_holds_4 : decode cX5_holds 4 = .ok (.iload_n 1, 1) := by decide +kernel
theorem dX5_holds_5 : decode cX5_holds 5 = .ok (.ifCond .lt 25, 3) := by decide +kernel
theorem dX5_holds_8 : decode cX5_holds 8 = .ok (.iload_n 2, 1) := by decide +kernel
theorem dX5_holds_9 : decode cX5_holds 9 = .ok (.aload_n 0, 1) := by decide +kernel
theorem dX5_holds_10 : decode cX5_holds 10 = .ok (.getfield 23, 3) := by decide +kernel
theorem dX5_holds_13 : decode cX5_holds 13 = .ok (.if_icmp .gt 17, 3) := by decide +kernel
theorem dX5_holds_16 : decode cX5_holds 16 = .ok (.iload_n 1, 1) := by decide +kernel
theorem dX5_holds_17 : decode cX5_holds 17 = .ok (.aload_n 0, 1) := by decide +kernel
theorem dX5_holds_18 : decode cX5_holds 18 = .ok (.getfield 23, 3) := by decide +kernel
theorem dX5_holds_21 : decode cX5_holds 21 = .ok (.iload_n 2, 1) := by decide +kernel
theorem dX5_holds_22 : decode cX5_holds 22 = .ok (.isub, 1) := by decide +kernel
theorem dX5_holds_23 : decode cX5_holds 23 = .ok (.if_icmp .gt 7, 3) := by decide +kernel
theorem dX5_holds_26 : decode cX5_holds 26 = .ok (.iconst 1, 1) := by decide +kernel
theorem dX5_holds_27 : decode cX5_holds 27 = .ok (.goto 4, 3) := by decide +kernel
theorem dX5_holds_30 : decode cX5_holds 30 = .ok (.iconst 0, 1) := by decide +kernel
theorem dX5_holds_31 : decode cX5_holds 31 = .ok (.ireturn, 1) := by decide +kernel
theorem dX5_put_0 : decode cX5_put 0 = .ok (.aload_n 0, 1) := by decide +kernel
theorem dX5_put_1 : decode cX5_put 1 = .ok (.getfield 19, 3) := by decide +kernel
theorem dX5_put_4 : decode cX5_put 4 = .ok (.ifCond .ne 8, 3) := by decide +kernel
theorem dX5_put_7 : decode cX5_put 7 = .ok (.iload_n 2, 1) := by decide +kernel
theorem dX5_put_8 : decode cX5_put 8 = .ok (.i2b, 1) := by decide +kernel
theorem dX5_put_9 : decode cX5_put 9 = .ok (.goto 17, 3) := by decide +kernel
theorem dX5_put_12 : decode cX5_put 12 = .ok (.aload_n 0, 1) := by decide +kernel
theorem dX5_put_13 : decode cX5_put 13 = .ok (.getfield 19, 3) := by decide +kernel
theorem dX5_put_16 : decode cX5_put 16 = .ok (.iconst 1, 1) := by decide +kernel
theorem dX5_put_17 : decode cX5_put 17 = .ok (.if_icmp .ne 8, 3) := by decide +kernel
theorem dX5_put_20 : decode cX5_put 20 = .ok (.iload_n 2, 1) := by decide +kernel
theorem dX5_put_21 : decode cX5_put 21 = .ok (.i2s, 1) := by decide +kernel
theorem dX5_put_22 : decode cX5_put 22 = .ok (.goto 4, 3) := by decide +kernel
theorem dX5_put_25 : decode cX5_put 25 = .ok (.iload_n 2, 1) := by decide +kernel
theorem dX5_put_26 : decode cX5_put 26 = .ok (.istore_n 3, 1) := by decide +kernel
theorem dX5_put_27 : decode cX5_put 27 = .ok (.aload_n 0, 1) := by decide +kernel
theorem dX5_put_28 : decode cX5_put 28 = .ok (.getfield 9, 3) := by decide +kernel
theorem dX5_put_31 : decode cX5_put 31 = .ok (.iload_n 1, 1) := by decide +kernel
theorem dX5_put_32 : decode cX5_put 32 = .ok (.iload_n 3, 1) := by decide +kernel
theorem dX5_put_33 : decode cX5_put 33 = .ok (.iastore, 1) := by decide +kernel
theorem dX5_put_34 : decode cX5_put 34 = .ok (.iload_n 3, 1) := by decide +kernel
theorem dX5_put_35 : decode cX5_put 35 = .ok (.ireturn, 1) := by decide +kernel
theorem dX5_holdsSets_0 : decode cX5_holdsSets 0 = .ok (.iload_n 1, 1) := by decide +kernel
theorem dX5_holdsSets_1 : decode cX5_holdsSets 1 = .ok (.istore 4, 2) := by decide +kernel
theorem dX5_holdsSets_3 : decode cX5_holdsSets 3 = .ok (.iload 4, 2) := by decide +kernel
theorem dX5_holdsSets_5 : decode cX5_holdsSets 5 = .ok (.iload_n 1, 1) := by decide +kernel
theorem dX5_holdsSets_6 : decode cX5_holdsSets 6 = .ok (.iload_n 2, 1) := by decide +kernel
theorem dX5_holdsSets_7 : decode cX5_holdsSets 7 = .ok (.iadd, 1) := by decide +kernel
theorem dX5_holdsSets_8 : decode cX5_holdsSets 8 = .ok (.if_icmp .ge 32, 3) := by decide +kernel
theorem dX5_holdsSets_11 : decode cX5_holdsSets 11 = .ok (.aload_n 0, 1) := by decide +kernel
theorem dX5_holdsSets_12 : decode cX5_holdsSets 12 = .ok (.getfield 9, 3) := by decide +kernel
theorem dX5_holdsSets_15 : decode cX5_holdsSets 15 = .ok (.iload 4, 2) := by decide +kernel
theorem dX5_holdsSets_17 : decode cX5_holdsSets 17 = .ok (.iaload, 1) := by decide +kernel
theorem dX5_holdsSets_18 : decode cX5_holdsSets 18 = .ok (.ifCond .lt 14, 3) := by decide +kernel
theorem dX5_holdsSets_21 : decode cX5_holdsSets 21 = .ok (.aload_n 0, 1) := by decide +kernel
theorem dX5_holdsSets_22 : decode cX5_holdsSets 22 = .ok (.getfield 9, 3) := by decide +kernel
theorem dX5_holdsSets_25 : decode cX5_holdsSets 25 = .ok (.iload 4, 2) := by decide +kernel
theorem dX5_holdsSets_27 : decode cX5_holdsSets 27 = .ok (.iaload, 1) := by decide +kernel
theorem dX5_holdsSets_28 : decode cX5_holdsSets 28 = .ok (.iload_n 3, 1) := by decide +kernel
theorem dX5_holdsSets_29 : decode cX5_holdsSets 29 = .ok (.if_icmp .lt 5, 3) := by decide +kernel
theorem dX5_holdsSets_32 : decode cX5_holdsSets 32 = .ok (.iconst 0, 1) := by decide +kernel
theorem dX5_holdsSets_33 : decode cX5_holdsSets 33 = .ok (.ireturn, 1) := by decide +kernel
theorem dX5_holdsSets_34 : decode cX5_holdsSets 34 = .ok (.iinc 4 1, 3) := by decide +kernel
theorem dX5_holdsSets_37 : decode cX5_holdsSets 37 = .ok (.goto (-34), 3) := by decide +kernel
theorem dX5_holdsSets_40 : decode cX5_holdsSets 40 = .ok (.iconst 1, 1) := by decide +kernel
theorem dX5_holdsSets_41 : decode cX5_holdsSets 41 = .ok (.ireturn, 1) := by decide +kernel
theorem dX5_countBit_0 : decode cX5_countBit 0 = .ok (.iconst 0, 1) := by decide +kernel
theorem dX5_countBit_1 : decode cX5_countBit 1 = .ok (.istore 4, 2) := by decide +kernel
theorem dX5_countBit_3 : decode cX5_countBit 3 = .ok (.iload_n 1, 1) := by decide +kernel
theorem dX5_countBit_4 : decode cX5_countBit 4 = .ok (.istore 5, 2) := by decide +kernel
theorem dX5_countBit_6 : decode cX5_countBit 6 = .ok (.iload 5, 2) := by decide +kernel
theorem dX5_countBit_8 : decode cX5_countBit 8 = .ok (.iload_n 1, 1) := by decide +kernel
theorem dX5_countBit_9 : decode cX5_countBit 9 = .ok (.iload_n 2, 1) := by decide +kernel
theorem dX5_countBit_10 : decode cX5_countBit 10 = .ok (.iadd, 1) := by decide +kernel
theorem dX5_countBit_11 : decode cX5_countBit 11 = .ok (.if_icmp .ge 25, 3) := by decide +kernel
theorem dX5_countBit_14 : decode cX5_countBit 14 = .ok (.iload 4, 2) := by decide +kernel
theorem dX5_countBit_16 : decode cX5_countBit 16 = .ok (.aload_n 0, 1) := by decide +kernel
theorem dX5_countBit_17 : decode cX5_countBit 17 = .ok (.getfield 9, 3) := by decide +kernel
theorem dX5_countBit_20 : decode cX5_countBit 20 = .ok (.iload 5, 2) := by decide +kernel
theorem dX5_countBit_22 : decode cX5_countBit 22 = .ok (.iaload, 1) := by decide +kernel
theorem dX5_countBit_23 : decode cX5_countBit 23 = .ok (.iload_n 3, 1) := by decide +kernel
theorem dX5_countBit_24 : decode cX5_countBit 24 = .ok (.ishr, 1) := by decide +kernel
theorem dX5_countBit_25 : decode cX5_countBit 25 = .ok (.iconst 1, 1) := by decide +kernel
theorem dX5_countBit_26 : decode cX5_countBit 26 = .ok (.iand, 1) := by decide +kernel
theorem dX5_countBit_27 : decode cX5_countBit 27 = .ok (.iadd, 1) := by decide +kernel
theorem dX5_countBit_28 : decode cX5_countBit 28 = .ok (.istore 4, 2) := by decide +kernel
theorem dX5_countBit_30 : decode cX5_countBit 30 = .ok (.iinc 5 1, 3) := by decide +kernel
theorem dX5_countBit_33 : decode cX5_countBit 33 = .ok (.goto (-27), 3) := by decide +kernel
theorem dX5_countBit_36 : decode cX5_countBit 36 = .ok (.iload 4, 2) := by decide +kernel
theorem dX5_countBit_38 : decode cX5_countBit 38 = .ok (.ireturn, 1) := by decide +kernel
