/-! decode rows: X4 -/
theorem dX4_init_0 : decode cX4_init 0 = .ok (.aload_n 0, 1) := by decide +kernel
theorem dX4_init_1 : decode cX4_init 1 = .ok (.invokespecial 3, 3) := by decide +kernel
theorem dX4_init_4 : decode cX4_init 4 = .ok (.aload_n 0, 1) := by decide +kernel
theorem dX4_init_5 : decode cX4_init 5 = .ok (.new 9, 3) := by decide +kernel
theorem dX4_init_8 : decode cX4_init 8 = .ok (.dup, 1) := by decide +kernel
theorem dX4_init_9 : decode cX4_init 9 = .ok (.invokespecial 11, 3) := by decide +kernel
theorem dX4_init_12 : decode cX4_init 12 = .ok (.putfield 12, 3) := by decide +kernel
theorem dX4_init_15 : decode cX4_init 15 = .ok (.aload_n 0, 1) := by decide +kernel
theorem dX4_init_16 : decode cX4_init 16 = .ok (.aload_n 1, 1) := by decide +kernel
theorem dX4_init_17 : decode cX4_init 17 = .ok (.putfield 18, 3) := by decide +kernel
theorem dX4_init_20 : decode cX4_init 20 = .ok (.return_, 1) := by decide +kernel
theorem dX4_readTape_0 : decode cX4_readTape 0 = .ok (.aload_n 0, 1) := by decide +kernel
theorem dX4_readTape_1 : decode cX4_readTape 1 = .ok (.getfield 12, 3) := by decide +kernel
theorem dX4_readTape_4 : decode cX4_readTape 4 = .ok (.invokevirtual 22, 3) := by decide +kernel
theorem dX4_readTape_7 : decode cX4_readTape 7 = .ok (.aload_n 0, 1) := by decide +kernel
theorem dX4_readTape_8 : decode cX4_readTape 8 = .ok (.iconst 0, 1) := by decide +kernel
theorem dX4_readTape_9 : decode cX4_readTape 9 = .ok (.putfield 25, 3) := by decide +kernel
theorem dX4_readTape_12 : decode cX4_readTape 12 = .ok (.aload_n 0, 1) := by decide +kernel
theorem dX4_readTape_13 : decode cX4_readTape 13 = .ok (.iconst 0, 1) := by decide +kernel
theorem dX4_readTape_14 : decode cX4_readTape 14 = .ok (.putfield 29, 3) := by decide +kernel
theorem dX4_readTape_17 : decode cX4_readTape 17 = .ok (.aload_n 0, 1) := by decide +kernel
theorem dX4_readTape_18 : decode cX4_readTape 18 = .ok (.getfield 18, 3) := by decide +kernel
theorem dX4_readTape_21 : decode cX4_readTape 21 = .ok (.invokevirtual 32, 3) := by decide +kernel
theorem dX4_readTape_24 : decode cX4_readTape 24 = .ok (.aload_n 0, 1) := by decide +kernel
theorem dX4_readTape_25 : decode cX4_readTape 25 = .ok (.invokevirtual 37, 3) := by decide +kernel
theorem dX4_readTape_28 : decode cX4_readTape 28 = .ok (.istore_n 1, 1) := by decide +kernel
theorem dX4_readTape_29 : decode cX4_readTape 29 = .ok (.iconst 0, 1) := by decide +kernel
theorem dX4_readTape_30 : decode cX4_readTape 30 = .ok (.istore_n 2, 1) := by decide +kernel
theorem dX4_readTape_31 : decode cX4_readTape 31 = .ok (.iload_n 2, 1) := by decide +kernel
theorem dX4_readTape_32 : decode cX4_readTape 32 = .ok (.sipush 400, 3) := by decide +kernel
theorem dX4_readTape_35 : decode cX4_readTape 35 = .ok (.if_icmp .ge 28, 3) := by decide +kernel
theorem dX4_readTape_38 : decode cX4_readTape 38 = .ok (.iload_n 1, 1) := by decide +kernel
theorem dX4_readTape_39 : decode cX4_readTape 39 = .ok (.ifCond .eq 24, 3) := by decide +kernel
theorem dX4_readTape_42 : decode cX4_readTape 42 = .ok (.aload_n 0, 1) := by decide +kernel
theorem dX4_readTape_43 : decode cX4_readTape 43 = .ok (.getfield 18, 3) := by decide +kernel
theorem dX4_readTape_46 : decode cX4_readTape 46 = .ok (.getfield 41, 3) := by decide +kernel
theorem dX4_readTape_49 : decode cX4_readTape 49 = .ok (.ifCond .eq 14, 3) := by decide +kernel
theorem dX4_readTape_52 : decode cX4_readTape 52 = .ok (.aload_n 0, 1) := by decide +kernel
theorem dX4_readTape_53 : decode cX4_readTape 53 = .ok (.invokevirtual 44, 3) := by decide +kernel
theorem dX4_readTape_56 : decode cX4_readTape 56 = .ok (.istore_n 1, 1) := by decide +kernel
theorem dX4_readTape_57 : decode cX4_readTape 57 = .ok (.iinc 2 1, 3) := by decide +kernel
theorem dX4_readTape_60 : decode cX4_readTape 60 = .ok (.goto (-29), 3) := by decide +kernel
theorem dX4_readTape_63 : decode cX4_readTape 63 = .ok (.iload_n 1, 1) := by decide +kernel
theorem dX4_readTape_64 : decode cX4_readTape 64 = .ok (.ireturn, 1) := by decide +kernel
theorem dX4_readPart_0 : decode cX4_readPart 0 = .ok (.aload_n 0, 1) := by decide +kernel
theorem dX4_readPart_1 : decode cX4_readPart 1 = .ok (.getfield 25, 3) := by decide +kernel
theorem dX4_readPart_4 : decode cX4_readPart 4 = .ok (.ifCond .ne 20, 3) := by decide +kernel
theorem dX4_readPart_7 : decode cX4_readPart 7 = .ok (.aload_n 0, 1) := by decide +kernel
theorem dX4_readPart_8 : decode cX4_readPart 8 = .ok (.getfield 18, 3) := by decide +kernel
theorem dX4_readPart_11 : decode cX4_readPart 11 = .ok (.ldc 47, 2) := by decide +kernel
theorem dX4_readPart_13 : decode cX4_readPart 13 = .ok (.invokevirtual 49, 3) := by decide +kernel
theorem dX4_readPart_16 : decode cX4_readPart 16 = .ok (.ifCond .eq 8, 3) := by decide +kernel
theorem dX4_readPart_19 : decode cX4_readPart 19 = .ok (.aload_n 0, 1) := by decide +kernel
theorem dX4_readPart_20 : decode cX4_readPart 20 = .ok (.invokevirtual 37, 3) := by decide +kernel
theorem dX4_readPart_23 : decode cX4_readPart 23 = .ok (.ireturn, 1) := by decide +kernel
theorem dX4_readPart_24 : decode cX4_readPart 24 = .ok (.aload_n 0, 1) := by decide +kernel
theorem dX4_readPart_25 : decode cX4_readPart 25 = .ok (.getfield 25, 3) := by decide +kernel
theorem dX4_readPart_28 : decode cX4_readPart 28 = .ok (.iconst 1, 1) := by decide +kernel
theorem dX4_readPart_29 : decode cX4_readPart 29 = .ok (.if_icmp .gt 25, 3) := by decide +kernel
theorem dX4_readPart_32 : decode cX4_readPart 32 = .ok (.aload_n 0, 1) := by decide +kernel
theorem dX4_readPart_33 : decode cX4_readPart 33 = .ok (.getfield 18, 3) := by decide +kernel
theorem dX4_readPart_36 : decode cX4_readPart 36 = .ok (.ldc 53, 2) := by decide +kernel
theorem dX4_readPart_38 : decode cX4_readPart 38 = .ok (.invokevirtual 49, 3) := by decide +kernel
theorem dX4_readPart_41 : decode cX4_readPart 41 = .ok (.ifCond .eq 13, 3) := by decide +kernel
theorem dX4_readPart_44 : decode cX4_readPart 44 = .ok (.aload_n 0, 1) := by decide +kernel
theorem dX4_readPart_45 : decode cX4_readPart 45 = .ok (.iconst 1, 1) := by decide +kernel
theorem dX4_readPart_46 : decode cX4_readPart 46 = .ok (.putfield 25, 3) := by decide +kernel
theorem dX4_readPart_49 : decode cX4_readPart 49 = .ok (.aload_n 0, 1) := by decide +kernel
theorem dX4_readPart_50 : decode cX4_readPart 50 = .ok (.invokevirtual 55, 3) := by decide +kernel
theorem dX4_readPart_53 : decode cX4_readPart 53 = .ok (.ireturn, 1) := by decide +kernel
theorem dX4_readPart_54 : decode cX4_readPart 54 = .ok (.aload_n 0, 1) := by decide +kernel
theorem dX4_readPart_55 : decode cX4_readPart 55 = .ok (.iconst 2, 1) := by decide +kernel
theorem dX4_readPart_56 : decode cX4_readPart 56 = .ok (.putfield 25, 3) := by decide +kernel
theorem dX4_readPart_59 : decode cX4_readPart 59 = .ok (.aload_n 0, 1) := by decide +kernel
theorem dX4_readPart_60 : decode cX4_readPart 60 = .ok (.invokevirtual 58, 3) := by decide +kernel
theorem dX4_readPart_63 : decode cX4_readPart 63 = .ok (.ireturn, 1) := by decide +kernel
theorem dX4_readRoom_0 : decode cX4_readRoom 0 = .ok (.aload_n 0, 1) := by decide +kernel
theorem dX4_readRoom_1 : decode cX4_readRoom 1 = .ok (.ldc 47, 2) := by decide +kernel
theorem dX4_readRoom_3 : decode cX4_readRoom 3 = .ok (.aload_n 0, 1) := by decide +kernel
theorem dX4_readRoom_4 : decode cX4_readRoom 4 = .ok (.getfield 12, 3) := by decide +kernel
theorem dX4_readRoom_7 : decode cX4_readRoom 7 = .ok (.getfield 61, 3) := by decide +kernel
theorem dX4_readRoom_10 : decode cX4_readRoom 10 = .ok (.bipush 6, 2) := by decide +kernel
theorem dX4_readRoom_12 : decode cX4_readRoom 12 = .ok (.if_icmp .ge 7, 3) := by decide +kernel
theorem dX4_readRoom_15 : decode cX4_readRoom 15 = .ok (.iconst 1, 1) := by decide +kernel
theorem dX4_readRoom_16 : decode cX4_readRoom 16 = .ok (.goto 4, 3) := by decide +kernel
theorem dX4_readRoom_19 : decode cX4_readRoom 19 = .ok (.iconst 0, 1) := by decide +kernel
theorem dX4_readRoom_20 : decode cX4_readRoom 20 = .ok (.invokevirtual 64, 3) := by decide +kernel
theorem dX4_readRoom_23 : decode cX4_readRoom 23 = .ok (.ifCond .ne 5, 3) := by decide +kernel
theorem dX4_readRoom_26 : decode cX4_readRoom 26 = .ok (.iconst 0, 1) := by decide +kernel
theorem dX4_readRoom_27 : decode cX4_readRoom 27 = .ok (.ireturn, 1) := by decide +kernel
theorem dX4_readRoom_28 : decode cX4_readRoom 28 = .ok (.aload_n 0, 1) := by decide +kernel
theorem dX4_readRoom_29 : decode cX4_readRoom 29 = .ok (.getfield 18, 3) := by decide +kernel
theorem dX4_readRoom_32 : decode cX4_readRoom 32 = .ok (.getfield 68, 3) := by decide +kernel
theorem dX4_readRoom_35 : decode cX4_readRoom 35 = .ok (.istore_n 1, 1) := by decide +kernel
theorem dX4_readRoom_36 : decode cX4_readRoom 36 = .ok (.aload_n 0, 1) := by decide +kernel
theorem dX4_readRoom_37 : decode cX4_readRoom 37 = .ok (.iconst 0, 1) := by decide +kernel
theorem dX4_readRoom_38 : decode cX4_readRoom 38 = .ok (.bipush 99, 2) := by decide +kernel
theorem dX4_readRoom_40 : decode cX4_readRoom 40 = .ok (.iconst (-1), 1) := by decide +kernel
theorem dX4_readRoom_41 : decode cX4_readRoom 41 = .ok (.invokevirtual 71, 3) := by decide +kernel
theorem dX4_readRoom_44 : decode cX4_readRoom 44 = .ok (.ifCond .eq 10, 3) := by decide +kernel
theorem dX4_readRoom_47 : decode cX4_readRoom 47 = .ok (.aload_n 0, 1) := by decide +kernel
theorem dX4_readRoom_48 : decode cX4_readRoom 48 = .ok (.invokevirtual 75, 3) := by decide +kernel
theorem dX4_readRoom_51 : decode cX4_readRoom 51 = .ok (.ifCond .ne 5, 3) := by decide +kernel
theorem dX4_readRoom_54 : decode cX4_readRoom 54 = .ok (.iconst 0, 1) := by decide +kernel
theorem dX4_readRoom_55 : decode cX4_readRoom 55 = .ok (.ireturn, 1) := by decide +kernel
theorem dX4_readRoom_56 : decode cX4_readRoom 56 = .ok (.aload_n 0, 1) := by decide +kernel
theorem dX4_readRoom_57 : decode cX4_readRoom 57 = .ok (.getfield 12, 3) := by decide +kernel
theorem dX4_readRoom_60 : decode cX4_readRoom 60 = .ok (.getfield 78, 3) := by decide +kernel
theorem dX4_readRoom_63 : decode cX4_readRoom 63 = .ok (.aload_n 0, 1) := by decide +kernel
theorem dX4_readRoom_64 : decode cX4_readRoom 64 = .ok (.getfield 12, 3) := by decide +kernel
theorem dX4_readRoom_67 : decode cX4_readRoom 67 = .ok (.getfield 61, 3) := by decide +kernel
theorem dX4_readRoom_70 : decode cX4_readRoom 70 = .ok (.iload_n 1, 1) := by decide +kernel
theorem dX4_readRoom_71 : decode cX4_readRoom 71 = .ok (.iastore, 1) := by decide +kernel
theorem dX4_readRoom_72 : decode cX4_readRoom 72 = .ok (.aload_n 0, 1) := by decide +kernel
theorem dX4_readRoom_73 : decode cX4_readRoom 73 = .ok (.getfield 12, 3) := by decide +kernel
theorem dX4_readRoom_76 : decode cX4_readRoom 76 = .ok (.dup, 1) := by decide +kernel
theorem dX4_readRoom_77 : decode cX4_readRoom 77 = .ok (.getfield 61, 3) := by decide +kernel
theorem dX4_readRoom_80 : decode cX4_readRoom 80 = .ok (.iconst 1, 1) := by decide +kernel
theorem dX4_readRoom_81 : decode cX4_readRoom 81 = .ok (.iadd, 1) := by decide +kernel
theorem dX4_readRoom_82 : decode cX4_readRoom 82 = .ok (.putfield 61, 3) := by decide +kernel
theorem dX4_readRoom_85 : decode cX4_readRoom 85 = .ok (.iconst 1, 1) := by decide +kernel
theorem dX4_readRoom_86 : decode cX4_readRoom 86 = .ok (.ireturn, 1) := by decide +kernel
theorem dX4_readDoor_0 : decode cX4_readDoor 0 = .ok (.aload_n 0, 1) := by decide +kernel
theorem dX4_readDoor_1 : decode cX4_readDoor 1 = .ok (.ldc 53, 2) := by decide +kernel
theorem dX4_readDoor_3 : decode cX4_readDoor 3 = .ok (.aload_n 0, 1) := by decide +kernel
theorem dX4_readDoor_4 : decode cX4_readDoor 4 = .ok (.getfield 29, 3) := by decide +kernel
theorem dX4_readDoor_7 : decode cX4_readDoor 7 = .ok (.bipush 12, 2) := by decide +kernel
theorem dX4_readDoor_9 : decode cX4_readDoor 9 = .ok (.if_icmp .ge 7, 3) := by decide +kernel
theorem dX4_readDoor_12 : decode cX4_readDoor 12 = .ok (.iconst 1, 1) := by decide +kernel
theorem dX4_readDoor_13 : decode cX4_readDoor 13 = .ok (.goto 4, 3) := by decide +kernel
theorem dX4_readDoor_16 : decode cX4_readDoor 16 = .ok (.iconst 0, 1) := by decide +kernel
theorem dX4_readDoor_17 : decode cX4_readDoor 17 = .ok (.invokevirtual 64, 3) := by decide +kernel
theorem dX4_readDoor_20 : decode cX4_readDoor 20 = .ok (.ifCond .ne 5, 3) := by decide +kernel
theorem dX4_readDoor_23 : decode cX4_readDoor 23 = .ok (.iconst 0, 1) := by decide +kernel
theorem dX4_readDoor_24 : decode cX4_readDoor 24 = .ok (.ireturn, 1) := by decide +kernel
theorem dX4_readDoor_25 : decode cX4_readDoor 25 = .ok (.aload_n 0, 1) := by decide +kernel
theorem dX4_readDoor_26 : decode cX4_readDoor 26 = .ok (.getfield 18, 3) := by decide +kernel
theorem dX4_readDoor_29 : decode cX4_readDoor 29 = .ok (.getfield 68, 3) := by decide +kernel
theorem dX4_readDoor_32 : decode cX4_readDoor 32 = .ok (.istore_n 1, 1) := by decide +kernel
theorem dX4_readDoor_33 : decode cX4_readDoor 33 = .ok (.aload_n 0, 1) := by decide +kernel
theorem dX4_readDoor_34 : decode cX4_readDoor 34 = .ok (.iconst 0, 1) := by decide +kernel
theorem dX4_readDoor_35 : decode cX4_readDoor 35 = .ok (.aload_n 0, 1) := by decide +kernel
theorem dX4_readDoor_36 : decode cX4_readDoor 36 = .ok (.getfield 12, 3) := by decide +kernel
theorem dX4_readDoor_39 : decode cX4_readDoor 39 = .ok (.getfield 61, 3) := by decide +kernel
theorem dX4_readDoor_42 : decode cX4_readDoor 42 = .ok (.iconst 1, 1) := by decide +kernel
theorem dX4_readDoor_43 : decode cX4_readDoor 43 = .ok (.isub, 1) := by decide +kernel
theorem dX4_readDoor_44 : decode cX4_readDoor 44 = .ok (.iconst (-1), 1) := by decide +kernel
theorem dX4_readDoor_45 : decode cX4_readDoor 45 = .ok (.invokevirtual 71, 3) := by decide +kernel
theorem dX4_readDoor_48 : decode cX4_readDoor 48 = .ok (.ifCond .ne 5, 3) := by decide +kernel
theorem dX4_readDoor_51 : decode cX4_readDoor 51 = .ok (.iconst 0, 1) := by decide +kernel
theorem dX4_readDoor_52 : decode cX4_readDoor 52 = .ok (.ireturn, 1) := by decide +kernel
theorem dX4_readDoor_53 : decode cX4_readDoor 53 = .ok (.aload_n 0, 1) := by decide +kernel
theorem dX4_readDoor_54 : decode cX4_readDoor 54 = .ok (.getfield 18, 3) := by decide +kernel
theorem dX4_readDoor_57 : decode cX4_readDoor 57 = .ok (.getfield 68, 3) := by decide +kernel
theorem dX4_readDoor_60 : decode cX4_readDoor 60 = .ok (.istore_n 2, 1) := by decide +kernel
theorem dX4_readDoor_61 : decode cX4_readDoor 61 = .ok (.aload_n 0, 1) := by decide +kernel
theorem dX4_readDoor_62 : decode cX4_readDoor 62 = .ok (.iconst 0, 1) := by decide +kernel
theorem dX4_readDoor_63 : decode cX4_readDoor 63 = .ok (.aload_n 0, 1) := by decide +kernel
theorem dX4_readDoor_64 : decode cX4_readDoor 64 = .ok (.getfield 12, 3) := by decide +kernel
theorem dX4_readDoor_67 : decode cX4_readDoor 67 = .ok (.getfield 61, 3) := by decide +kernel
theorem dX4_readDoor_70 : decode cX4_readDoor 70 = .ok (.iconst 1, 1) := by decide +kernel
theorem dX4_readDoor_71 : decode cX4_readDoor 71 = .ok (.isub, 1) := by decide +kernel
theorem dX4_readDoor_72 : decode cX4_readDoor 72 = .ok (.iload_n 1, 1) := by decide +kernel
theorem dX4_readDoor_73 : decode cX4_readDoor 73 = .ok (.invokevirtual 71, 3) := by decide +kernel
theorem dX4_readDoor_76 : decode cX4_readDoor 76 = .ok (.ifCond .eq 10, 3) := by decide +kernel
theorem dX4_readDoor_79 : decode cX4_readDoor 79 = .ok (.aload_n 0, 1) := by decide +kernel
theorem dX4_readDoor_80 : decode cX4_readDoor 80 = .ok (.invokevirtual 75, 3) := by decide +kernel
theorem dX4_readDoor_83 : decode cX4_readDoor 83 = .ok (.ifCond .ne 5, 3) := by decide +kernel
theorem dX4_readDoor_86 : decode cX4_readDoor 86 = .ok (.iconst 0, 1) := by decide +kernel
theorem dX4_readDoor_87 : decode cX4_readDoor 87 = .ok (.ireturn, 1) := by decide +kernel
theorem dX4_readDoor_88 : decode cX4_readDoor 88 = .ok (.aload_n 0, 1) := by decide +kernel
theorem dX4_readDoor_89 : decode cX4_readDoor 89 = .ok (.getfield 12, 3) := by decide +kernel
theorem dX4_readDoor_92 : decode cX4_readDoor 92 = .ok (.iload_n 1, 1) := by decide +kernel
theorem dX4_readDoor_93 : decode cX4_readDoor 93 = .ok (.iload_n 2, 1) := by decide +kernel
theorem dX4_readDoor_94 : decode cX4_readDoor 94 = .ok (.iconst 1, 1) := by decide +kernel
theorem dX4_readDoor_95 : decode cX4_readDoor 95 = .ok (.invokevirtual 82, 3) := by decide +kernel
theorem dX4_readDoor_98 : decode cX4_readDoor 98 = .ok (.aload_n 0, 1) := by decide +kernel
theorem dX4_readDoor_99 : decode cX4_readDoor 99 = .ok (.dup, 1) := by decide +kernel
theorem dX4_readDoor_100 : decode cX4_readDoor 100 = .ok (.getfield 29, 3) := by decide +kernel
theorem dX4_readDoor_103 : decode cX4_readDoor 103 = .ok (.iconst 1, 1) := by decide +kernel
theorem dX4_readDoor_104 : decode cX4_readDoor 104 = .ok (.iadd, 1) := by decide +kernel
theorem dX4_readDoor_105 : decode cX4_readDoor 105 = .ok (.putfield 29, 3) := by decide +kernel
theorem dX4_readDoor_108 : decode cX4_readDoor 108 = .ok (.iconst 1, 1) := by decide +kernel
theorem dX4_readDoor_109 : decode cX4_readDoor 109 = .ok (.ireturn, 1) := by decide +kernel
theorem dX4_readCrowd_0 : decode cX4_readCrowd 0 = .ok (.aload_n 0, 1) := by decide +kernel
theorem dX4_readCrowd_1 : decode cX4_readCrowd 1 = .ok (.ldc 86, 2) := by decide +kernel
theorem dX4_readCrowd_3 : decode cX4_readCrowd 3 = .ok (.aload_n 0, 1) := by decide +kernel
theorem dX4_readCrowd_4 : decode cX4_readCrowd 4 = .ok (.getfield 12, 3) := by decide +kernel
theorem dX4_readCrowd_7 : decode cX4_readCrowd 7 = .ok (.getfield 88, 3) := by decide +kernel
theorem dX4_readCrowd_10 : decode cX4_readCrowd 10 = .ok (.iconst 5, 1) := by decide +kernel
theorem dX4_readCrowd_11 : decode cX4_readCrowd 11 = .ok (.if_icmp .ge 7, 3) := by decide +kernel
theorem dX4_readCrowd_14 : decode cX4_readCrowd 14 = .ok (.iconst 1, 1) := by decide +kernel
theorem dX4_readCrowd_15 : decode cX4_readCrowd 15 = .ok (.goto 4, 3) := by decide +kernel
theorem dX4_readCrowd_18 : decode cX4_readCrowd 18 = .ok (.iconst 0, 1) := by decide +kernel
theorem dX4_readCrowd_19 : decode cX4_readCrowd 19 = .ok (.invokevirtual 64, 3) := by decide +kernel
theorem dX4_readCrowd_22 : decode cX4_readCrowd 22 = .ok (.ifCond .ne 5, 3) := by decide +kernel
theorem dX4_readCrowd_25 : decode cX4_readCrowd 25 = .ok (.iconst 0, 1) := by decide +kernel
theorem dX4_readCrowd_26 : decode cX4_readCrowd 26 = .ok (.ireturn, 1) := by decide +kernel
theorem dX4_readCrowd_27 : decode cX4_readCrowd 27 = .ok (.aload_n 0, 1) := by decide +kernel
theorem dX4_readCrowd_28 : decode cX4_readCrowd 28 = .ok (.invokevirtual 91, 3) := by decide +kernel
theorem dX4_readCrowd_31 : decode cX4_readCrowd 31 = .ok (.istore_n 1, 1) := by decide +kernel
theorem dX4_readCrowd_32 : decode cX4_readCrowd 32 = .ok (.iload_n 1, 1) := by decide +kernel
theorem dX4_readCrowd_33 : decode cX4_readCrowd 33 = .ok (.ifCond .ne 9, 3) := by decide +kernel
theorem dX4_readCrowd_36 : decode cX4_readCrowd 36 = .ok (.aload_n 0, 1) := by decide +kernel
theorem dX4_readCrowd_37 : decode cX4_readCrowd 37 = .ok (.iconst 1, 1) := by decide +kernel
theorem dX4_readCrowd_38 : decode cX4_readCrowd 38 = .ok (.invokevirtual 95, 3) := by decide +kernel
theorem dX4_readCrowd_41 : decode cX4_readCrowd 41 = .ok (.ireturn, 1) := by decide +kernel
theorem dX4_readCrowd_42 : decode cX4_readCrowd 42 = .ok (.aload_n 0, 1) := by decide +kernel
theorem dX4_readCrowd_43 : decode cX4_readCrowd 43 = .ok (.getfield 18, 3) := by decide +kernel
theorem dX4_readCrowd_46 : decode cX4_readCrowd 46 = .ok (.invokevirtual 99, 3) := by decide +kernel
theorem dX4_readCrowd_49 : decode cX4_readCrowd 49 = .ok (.aload_n 0, 1) := by decide +kernel
theorem dX4_readCrowd_50 : decode cX4_readCrowd 50 = .ok (.getfield 18, 3) := by decide +kernel
theorem dX4_readCrowd_53 : decode cX4_readCrowd 53 = .ok (.getfield 68, 3) := by decide +kernel
theorem dX4_readCrowd_56 : decode cX4_readCrowd 56 = .ok (.istore_n 2, 1) := by decide +kernel
theorem dX4_readCrowd_57 : decode cX4_readCrowd 57 = .ok (.aload_n 0, 1) := by decide +kernel
theorem dX4_readCrowd_58 : decode cX4_readCrowd 58 = .ok (.iconst 0, 1) := by decide +kernel
theorem dX4_readCrowd_59 : decode cX4_readCrowd 59 = .ok (.aload_n 0, 1) := by decide +kernel
theorem dX4_readCrowd_60 : decode cX4_readCrowd 60 = .ok (.getfield 12, 3) := by decide +kernel
theorem dX4_readCrowd_63 : decode cX4_readCrowd 63 = .ok (.getfield 61, 3) := by decide +kernel
theorem dX4_readCrowd_66 : decode cX4_readCrowd 66 = .ok (.iconst 1, 1) := by decide +kernel
theorem dX4_readCrowd_67 : decode cX4_readCrowd 67 = .ok (.isub, 1) := by decide +kernel
theorem dX4_readCrowd_68 : decode cX4_readCrowd 68 = .ok (.iconst (-1), 1) := by decide +kernel
theorem dX4_readCrowd_69 : decode cX4_readCrowd 69 = .ok (.invokevirtual 71, 3) := by decide +kernel
theorem dX4_readCrowd_72 : decode cX4_readCrowd 72 = .ok (.ifCond .ne 5, 3) := by decide +kernel
theorem dX4_readCrowd_75 : decode cX4_readCrowd 75 = .ok (.iconst 0, 1) := by decide +kernel
theorem dX4_readCrowd_76 : decode cX4_readCrowd 76 = .ok (.ireturn, 1) := by decide +kernel
theorem dX4_readCrowd_77 : decode cX4_readCrowd 77 = .ok (.aload_n 0, 1) := by decide +kernel
theorem dX4_readCrowd_78 : decode cX4_readCrowd 78 = .ok (.getfield 18, 3) := by decide +kernel
theorem dX4_readCrowd_81 : decode cX4_readCrowd 81 = .ok (.getfield 68, 3) := by decide +kernel
theorem dX4_readCrowd_84 : decode cX4_readCrowd 84 = .ok (.istore_n 3, 1) := by decide +kernel
theorem dX4_readCrowd_85 : decode cX4_readCrowd 85 = .ok (.aload_n 0, 1) := by decide +kernel
theorem dX4_readCrowd_86 : decode cX4_readCrowd 86 = .ok (.iconst 1, 1) := by decide +kernel
theorem dX4_readCrowd_87 : decode cX4_readCrowd 87 = .ok (.bipush 50, 2) := by decide +kernel
theorem dX4_readCrowd_89 : decode cX4_readCrowd 89 = .ok (.iconst (-1), 1) := by decide +kernel
theorem dX4_readCrowd_90 : decode cX4_readCrowd 90 = .ok (.invokevirtual 71, 3) := by decide +kernel
theorem dX4_readCrowd_93 : decode cX4_readCrowd 93 = .ok (.ifCond .eq 10, 3) := by decide +kernel
theorem dX4_readCrowd_96 : decode cX4_readCrowd 96 = .ok (.aload_n 0, 1) := by decide +kernel
theorem dX4_readCrowd_97 : decode cX4_readCrowd 97 = .ok (.invokevirtual 75, 3) := by decide +kernel
theorem dX4_readCrowd_100 : decode cX4_readCrowd 100 = .ok (.ifCond .ne 5, 3) := by decide +kernel
theorem dX4_readCrowd_103 : decode cX4_readCrowd 103 = .ok (.iconst 0, 1) := by decide +kernel
theorem dX4_readCrowd_104 : decode cX4_readCrowd 104 = .ok (.ireturn, 1) := by decide +kernel
theorem dX4_readCrowd_105 : decode cX4_readCrowd 105 = .ok (.aload_n 0, 1) := by decide +kernel
theorem dX4_readCrowd_106 : decode cX4_readCrowd 106 = .ok (.getfield 12, 3) := by decide +kernel
theorem dX4_readCrowd_109 : decode cX4_readCrowd 109 = .ok (.getfield 102, 3) := by decide +kernel
theorem dX4_readCrowd_112 : decode cX4_readCrowd 112 = .ok (.aload_n 0, 1) := by decide +kernel
theorem dX4_readCrowd_113 : decode cX4_readCrowd 113 = .ok (.getfield 12, 3) := by decide +kernel
theorem dX4_readCrowd_116 : decode cX4_readCrowd 116 = .ok (.getfield 88, 3) := by decide +kernel
theorem dX4_readCrowd_119 : decode cX4_readCrowd 119 = .ok (.iload_n 1, 1) := by decide +kernel
theorem dX4_readCrowd_120 : decode cX4_readCrowd 120 = .ok (.iastore, 1) := by decide +kernel
theorem dX4_readCrowd_121 : decode cX4_readCrowd 121 = .ok (.aload_n 0, 1) := by decide +kernel
theorem dX4_readCrowd_122 : decode cX4_readCrowd 122 = .ok (.getfield 12, 3) := by decide +kernel
theorem dX4_readCrowd_125 : decode cX4_readCrowd 125 = .ok (.getfield 105, 3) := by decide +kernel
theorem dX4_readCrowd_128 : decode cX4_readCrowd 128 = .ok (.aload_n 0, 1) := by decide +kernel
theorem dX4_readCrowd_129 : decode cX4_readCrowd 129 = .ok (.getfield 12, 3) := by decide +kernel
theorem dX4_readCrowd_132 : decode cX4_readCrowd 132 = .ok (.getfield 88, 3) := by decide +kernel
theorem dX4_readCrowd_135 : decode cX4_readCrowd 135 = .ok (.iload_n 2, 1) := by decide +kernel
theorem dX4_readCrowd_136 : decode cX4_readCrowd 136 = .ok (.iastore, 1) := by decide +kernel
theorem dX4_readCrowd_137 : decode cX4_readCrowd 137 = .ok (.aload_n 0, 1) := by decide +kernel
theorem dX4_readCrowd_138 : decode cX4_readCrowd 138 = .ok (.getfield 12, 3) := by decide +kernel
theorem dX4_readCrowd_141 : decode cX4_readCrowd 141 = .ok (.getfield 108, 3) := by decide +kernel
theorem dX4_readCrowd_144 : decode cX4_readCrowd 144 = .ok (.aload_n 0, 1) := by decide +kernel
theorem dX4_readCrowd_145 : decode cX4_readCrowd 145 = .ok (.getfield 12, 3) := by decide +kernel
theorem dX4_readCrowd_148 : decode cX4_readCrowd 148 = .ok (.getfield 88, 3) := by decide +kernel
theorem dX4_readCrowd_151 : decode cX4_readCrowd 151 = .ok (.iload_n 3, 1) := by decide +kernel
theorem dX4_readCrowd_152 : decode cX4_readCrowd 152 = .ok (.iastore, 1) := by decide +kernel
theorem dX4_readCrowd_153 : decode cX4_readCrowd 153 = .ok (.aload_n 0, 1) := by decide +kernel
theorem dX4_readCrowd_154 : decode cX4_readCrowd 154 = .ok (.getfield 12, 3) := by decide +kernel
theorem dX4_readCrowd_157 : decode cX4_readCrowd 157 = .ok (.dup, 1) := by decide +kernel
theorem dX4_readCrowd_158 : decode cX4_readCrowd 158 = .ok (.getfield 88, 3) := by decide +kernel
theorem dX4_readCrowd_161 : decode cX4_readCrowd 161 = .ok (.iconst 1, 1) := by decide +kernel
theorem dX4_readCrowd_162 : decode cX4_readCrowd 162 = .ok (.iadd, 1) := by decide +kernel
theorem dX4_readCrowd_163 : decode cX4_readCrowd 163 = .ok (.putfield 88, 3) := by decide +kernel
theorem dX4_readCrowd_166 : decode cX4_readCrowd 166 = .ok (.iconst 1, 1) := by decide +kernel
theorem dX4_readCrowd_167 : decode cX4_readCrowd 167 = .ok (.ireturn, 1) := by decide +kernel
theorem dX4_readWord_0 : decode cX4_readWord 0 = .ok (.aload_n 0, 1) := by decide +kernel
theorem dX4_readWord_1 : decode cX4_readWord 1 = .ok (.getfield 18, 3) := by decide +kernel
theorem dX4_readWord_4 : decode cX4_readWord 4 = .ok (.aload_n 1, 1) := by decide +kernel
theorem dX4_readWord_5 : decode cX4_readWord 5 = .ok (.invokevirtual 49, 3) := by decide +kernel
theorem dX4_readWord_8 : decode cX4_readWord 8 = .ok (.ifCond .ne 9, 3) := by decide +kernel
theorem dX4_readWord_11 : decode cX4_readWord 11 = .ok (.aload_n 0, 1) := by decide +kernel
theorem dX4_readWord_12 : decode cX4_readWord 12 = .ok (.iconst 1, 1) := by decide +kernel
theorem dX4_readWord_13 : decode cX4_readWord 13 = .ok (.invokevirtual 95, 3) := by decide +kernel
theorem dX4_readWord_16 : decode cX4_readWord 16 = .ok (.ireturn, 1) := by decide +kernel
theorem dX4_readWord_17 : decode cX4_readWord 17 = .ok (.iload_n 2, 1) := by decide +kernel
theorem dX4_readWord_18 : decode cX4_readWord 18 = .ok (.ifCond .ne 9, 3) := by decide +kernel
theorem dX4_readWord_21 : decode cX4_readWord 21 = .ok (.aload_n 0, 1) := by decide +kernel
theorem dX4_readWord_22 : decode cX4_readWord 22 = .ok (.iconst 3, 1) := by decide +kernel
theorem dX4_readWord_23 : decode cX4_readWord 23 = .ok (.invokevirtual 95, 3) := by decide +kernel
theorem dX4_readWord_26 : decode cX4_readWord 26 = .ok (.ireturn, 1) := by decide +kernel
theorem dX4_readWord_27 : decode cX4_readWord 27 = .ok (.aload_n 0, 1) := by decide +kernel
theorem dX4_readWord_28 : decode cX4_readWord 28 = .ok (.getfield 18, 3) := by decide +kernel
theorem dX4_readWord_31 : decode cX4_readWord 31 = .ok (.invokevirtual 99, 3) := by decide +kernel
theorem dX4_readWord_34 : decode cX4_readWord 34 = .ok (.iconst 1, 1) := by decide +kernel
theorem dX4_readWord_35 : decode cX4_readWord 35 = .ok (.ireturn, 1) := by decide +kernel
theorem dX4_readNumber_0 : decode cX4_readNumber 0 = .ok (.aload_n 0, 1) := by decide +kernel
theorem dX4_readNumber_1 : decode cX4_readNumber 1 = .ok (.getfield 18, 3) := by decide +kernel
theorem dX4_readNumber_4 : decode cX4_readNumber 4 = .ok (.getfield 41, 3) := by decide +kernel
theorem dX4_readNumber_7 : decode cX4_readNumber 7 = .ok (.iconst 2, 1) := by decide +kernel
theorem dX4_readNumber_8 : decode cX4_readNumber 8 = .ok (.if_icmp .eq 9, 3) := by decide +kernel
theorem dX4_readNumber_11 : decode cX4_readNumber 11 = .ok (.aload_n 0, 1) := by decide +kernel
theorem dX4_readNumber_12 : decode cX4_readNumber 12 = .ok (.iconst 1, 1) := by decide +kernel
theorem dX4_readNumber_13 : decode cX4_readNumber 13 = .ok (.invokevirtual 95, 3) := by decide +kernel
theorem dX4_readNumber_16 : decode cX4_readNumber 16 = .ok (.ireturn, 1) := by decide +kernel
theorem dX4_readNumber_17 : decode cX4_readNumber 17 = .ok (.aload_n 0, 1) := by decide +kernel
theorem dX4_readNumber_18 : decode cX4_readNumber 18 = .ok (.getfield 18, 3) := by decide +kernel
theorem dX4_readNumber_21 : decode cX4_readNumber 21 = .ok (.getfield 68, 3) := by decide +kernel
theorem dX4_readNumber_24 : decode cX4_readNumber 24 = .ok (.iload_n 1, 1) := by decide +kernel
theorem dX4_readNumber_25 : decode cX4_readNumber 25 = .ok (.if_icmp .lt 25, 3) := by decide +kernel
theorem dX4_readNumber_28 : decode cX4_readNumber 28 = .ok (.aload_n 0, 1) := by decide +kernel
theorem dX4_readNumber_29 : decode cX4_readNumber 29 = .ok (.getfield 18, 3) := by decide +kernel
theorem dX4_readNumber_32 : decode cX4_readNumber 32 = .ok (.getfield 68, 3) := by decide +kernel
theorem dX4_readNumber_35 : decode cX4_readNumber 35 = .ok (.iload_n 2, 1) := by decide +kernel
theorem dX4_readNumber_36 : decode cX4_readNumber 36 = .ok (.if_icmp .gt 14, 3) := by decide +kernel
theorem dX4_readNumber_39 : decode cX4_readNumber 39 = .ok (.aload_n 0, 1) := by decide +kernel
theorem dX4_readNumber_40 : decode cX4_readNumber 40 = .ok (.getfield 18, 3) := by decide +kernel
theorem dX4_readNumber_43 : decode cX4_readNumber 43 = .ok (.getfield 68, 3) := by decide +kernel
theorem dX4_readNumber_46 : decode cX4_readNumber 46 = .ok (.iload_n 3, 1) := by decide +kernel
theorem dX4_readNumber_47 : decode cX4_readNumber 47 = .ok (.if_icmp .ne 9, 3) := by decide +kernel
theorem dX4_readNumber_50 : decode cX4_readNumber 50 = .ok (.aload_n 0, 1) := by decide +kernel
theorem dX4_readNumber_51 : decode cX4_readNumber 51 = .ok (.iconst 2, 1) := by decide +kernel
theorem dX4_readNumber_52 : decode cX4_readNumber 52 = .ok (.invokevirtual 95, 3) := by decide +kernel
theorem dX4_readNumber_55 : decode cX4_readNumber 55 = .ok (.ireturn, 1) := by decide +kernel
theorem dX4_readNumber_56 : decode cX4_readNumber 56 = .ok (.aload_n 0, 1) := by decide +kernel
theorem dX4_readNumber_57 : decode cX4_readNumber 57 = .ok (.getfield 18, 3) := by decide +kernel
theorem dX4_readNumber_60 : decode cX4_readNumber 60 = .ok (.invokevirtual 99, 3) := by decide +kernel
theorem dX4_readNumber_63 : decode cX4_readNumber 63 = .ok (.iconst 1, 1) := by decide +kernel
theorem dX4_readNumber_64 : decode cX4_readNumber 64 = .ok (.ireturn, 1) := by decide +kernel
theorem dX4_readEnd_0 : decode cX4_readEnd 0 = .ok (.aload_n 0, 1) := by decide +kernel
theorem dX4_readEnd_1 : decode cX4_readEnd 1 = .ok (.getfield 18, 3) := by decide +kernel
theorem dX4_readEnd_4 : decode cX4_readEnd 4 = .ok (.getfield 41, 3) := by decide +kernel
theorem dX4_readEnd_7 : decode cX4_readEnd 7 = .ok (.iconst 3, 1) := by decide +kernel
theorem dX4_readEnd_8 : decode cX4_readEnd 8 = .ok (.if_icmp .eq 9, 3) := by decide +kernel
theorem dX4_readEnd_11 : decode cX4_readEnd 11 = .ok (.aload_n 0, 1) := by decide +kernel
theorem dX4_readEnd_12 : decode cX4_readEnd 12 = .ok (.iconst 1, 1) := by decide +kernel
theorem dX4_readEnd_13 : decode cX4_readEnd 13 = .ok (.invokevirtual 95, 3) := by decide +kernel
theorem dX4_readEnd_16 : decode cX4_readEnd 16 = .ok (.ireturn, 1) := by decide +kernel
theorem dX4_readEnd_17 : decode cX4_readEnd 17 = .ok (.aload_n 0, 1) := by decide +kernel
theorem dX4_readEnd_18 : decode cX4_readEnd 18 = .ok (.getfield 18, 3) := by decide +kernel
theorem dX4_readEnd_21 : decode cX4_readEnd 21 = .ok (.invokevirtual 99, 3) := by decide +kernel
theorem dX4_readEnd_24 : decode cX4_readEnd 24 = .ok (.iconst 1, 1) := by decide +kernel
theorem dX4_readEnd_25 : decode cX4_readEnd 25 = .ok (.ireturn, 1) := by decide +kernel
theorem dX4_sortNamed_0 : decode cX4_sortNamed 0 = .ok (.aload_n 0, 1) := by decide +kernel
theorem dX4_sortNamed_1 : decode cX4_sortNamed 1 = .ok (.getfield 18, 3) := by decide +kernel
theorem dX4_sortNamed_4 : decode cX4_sortNamed 4 = .ok (.ldc 111, 2) := by decide +kernel
theorem dX4_sortNamed_6 : decode cX4_sortNamed 6 = .ok (.invokevirtual 49, 3) := by decide +kernel
theorem dX4_sortNamed_9 : decode cX4_sortNamed 9 = .ok (.ifCond .eq 5, 3) := by decide +kernel
theorem dX4_sortNamed_12 : decode cX4_sortNamed 12 = .ok (.iconst 1, 1) := by decide +kernel
theorem dX4_sortNamed_13 : decode cX4_sortNamed 13 = .ok (.ireturn, 1) := by decide +kernel
theorem dX4_sortNamed_14 : decode cX4_sortNamed 14 = .ok (.aload_n 0, 1) := by decide +kernel
theorem dX4_sortNamed_15 : decode cX4_sortNamed 15 = .ok (.getfield 18, 3) := by decide +kernel
theorem dX4_sortNamed_18 : decode cX4_sortNamed 18 = .ok (.ldc 113, 2) := by decide +kernel
theorem dX4_sortNamed_20 : decode cX4_sortNamed 20 = .ok (.invokevirtual 49, 3) := by decide +kernel
theorem dX4_sortNamed_23 : decode cX4_sortNamed 23 = .ok (.ifCond .eq 5, 3) := by decide +kernel
theorem dX4_sortNamed_26 : decode cX4_sortNamed 26 = .ok (.iconst 2, 1) := by decide +kernel
theorem dX4_sortNamed_27 : decode cX4_sortNamed 27 = .ok (.ireturn, 1) := by decide +kernel
theorem dX4_sortNamed_28 : decode cX4_sortNamed 28 = .ok (.aload_n 0, 1) := by decide +kernel
theorem dX4_sortNamed_29 : decode cX4_sortNamed 29 = .ok (.getfield 18, 3) := by decide +kernel
theorem dX4_sortNamed_32 : decode cX4_sortNamed 32 = .ok (.ldc 115, 2) := by decide +kernel
theorem dX4_sortNamed_34 : decode cX4_sortNamed 34 = .ok (.invokevirtual 49, 3) := by decide +kernel
theorem dX4_sortNamed_37 : decode cX4_sortNamed 37 = .ok (.ifCond .eq 5, 3) := by decide +kernel
theorem dX4_sortNamed_40 : decode cX4_sortNamed 40 = .ok (.iconst 3, 1) := by decide +kernel
theorem dX4_sortNamed_41 : decode cX4_sortNamed 41 = .ok (.ireturn, 1) := by decide +kernel
theorem dX4_sortNamed_42 : decode cX4_sortNamed 42 = .ok (.aload_n 0, 1) := by decide +kernel
theorem dX4_sortNamed_43 : decode cX4_sortNamed 43 = .ok (.getfield 18, 3) := by decide +kernel
theorem dX4_sortNamed_46 : decode cX4_sortNamed 46 = .ok (.ldc 117, 2) := by decide +kernel
theorem dX4_sortNamed_48 : decode cX4_sortNamed 48 = .ok (.invokevirtual 49, 3) := by decide +kernel
theorem dX4_sortNamed_51 : decode cX4_sortNamed 51 = .ok (.ifCond .eq 5, 3) := by decide +kernel
theorem dX4_sortNamed_54 : decode cX4_sortNamed 54 = .ok (.iconst 4, 1) := by decide +kernel
theorem dX4_sortNamed_55 : decode cX4_sortNamed 55 = .ok (.ireturn, 1) := by decide +kernel
theorem dX4_sortNamed_56 : decode cX4_sortNamed 56 = .ok (.aload_n 0, 1) := by decide +kernel
theorem dX4_sortNamed_57 : decode cX4_sortNamed 57 = .ok (.getfield 18, 3) := by decide +kernel
theorem dX4_sortNamed_60 : decode cX4_sortNamed 60 = .ok (.ldc 119, 2) := by decide +kernel
theorem dX4_sortNamed_62 : decode cX4_sortNamed 62 = .ok (.invokevirtual 49, 3) := by decide +kernel
theorem dX4_sortNamed_65 : decode cX4_sortNamed 65 = .ok (.ifCond .eq 7, 3) := by decide +kernel
theorem dX4_sortNamed_68 : decode cX4_sortNamed 68 = .ok (.iconst 5, 1) := by decide +kernel
theorem dX4_sortNamed_69 : decode cX4_sortNamed 69 = .ok (.goto 4, 3) := by decide +kernel
theorem dX4_sortNamed_72 : decode cX4_sortNamed 72 = .ok (.iconst 0, 1) := by decide +kernel
theorem dX4_sortNamed_73 : decode cX4_sortNamed 73 = .ok (.ireturn, 1) := by decide +kernel
theorem dX4_failed_0 : decode cX4_failed 0 = .ok (.aload_n 0, 1) := by decide +kernel
theorem dX4_failed_1 : decode cX4_failed 1 = .ok (.iload_n 1, 1) := by decide +kernel
theorem dX4_failed_2 : decode cX4_failed 2 = .ok (.putfield 121, 3) := by decide +kernel
theorem dX4_failed_5 : decode cX4_failed 5 = .ok (.iconst 0, 1) := by decide +kernel
theorem dX4_failed_6 : decode cX4_failed 6 = .ok (.ireturn, 1) := by decide +kernel
