/-! decode rows: X8 -/
theorem dX8_number_22 : decode cX8_number 22 = .ok (.iload_n 3, 1) := by decide +kernel
theorem dX8_number_23 : decode cX8_number 23 = .ok (.i2l, 1) := by decide +kernel
theorem dX8_number_24 : decode cX8_number 24 = .ok (.iload_n 1, 1) := by decide +kernel
theorem dX8_number_25 : decode cX8_number 25 = .ok (.i2l, 1) := by decide +kernel
theorem dX8_number_26 : decode cX8_number 26 = .ok (.iload_n 2, 1) := by decide +kernel
theorem dX8_number_27 : decode cX8_number 27 = .ok (.i2l, 1) := by decide +kernel
theorem dX8_number_28 : decode cX8_number 28 = .ok (.invokestatic 69, 3) := by decide +kernel
theorem dX8_number_31 : decode cX8_number 31 = .ok (.ifCond .ne 8, 3) := by decide +kernel
theorem dX8_number_34 : decode cX8_number 34 = .ok (.aload_n 0, 1) := by decide +kernel
theorem dX8_number_35 : decode cX8_number 35 = .ok (.iconst 2, 1) := by decide +kernel
theorem dX8_number_36 : decode cX8_number 36 = .ok (.invokevirtual 126, 3) := by decide +kernel
theorem dX8_number_39 : decode cX8_number 39 = .ok (.aload_n 0, 1) := by decide +kernel
theorem dX8_number_40 : decode cX8_number 40 = .ok (.aload_n 0, 1) := by decide +kernel
theorem dX8_number_41 : decode cX8_number 41 = .ok (.getfield 105, 3) := by decide +kernel
theorem dX8_number_44 : decode cX8_number 44 = .ok (.iconst 3, 1) := by decide +kernel
theorem dX8_number_45 : decode cX8_number 45 = .ok (.if_icmp .ne 7, 3) := by decide +kernel
theorem dX8_number_48 : decode cX8_number 48 = .ok (.iconst 1, 1) := by decide +kernel
theorem dX8_number_49 : decode cX8_number 49 = .ok (.goto 4, 3) := by decide +kernel
theorem dX8_number_52 : decode cX8_number 52 = .ok (.iconst 0, 1) := by decide +kernel
theorem dX8_number_53 : decode cX8_number 53 = .ok (.invokevirtual 134, 3) := by decide +kernel
theorem dX8_number_56 : decode cX8_number 56 = .ok (.iload_n 3, 1) := by decide +kernel
theorem dX8_number_57 : decode cX8_number 57 = .ok (.ireturn, 1) := by decide +kernel
theorem dX8_kindBy_0 : decode cX8_kindBy 0 = .ok (.lload_n 0, 1) := by decide +kernel
theorem dX8_kindBy_1 : decode cX8_kindBy 1 = .ok (.ldc2_w 138, 3) := by decide +kernel
theorem dX8_kindBy_4 : decode cX8_kindBy 4 = .ok (.lcmp, 1) := by decide +kernel
theorem dX8_kindBy_5 : decode cX8_kindBy 5 = .ok (.ifCond .ne 7, 3) := by decide +kernel
theorem dX8_kindBy_8 : decode cX8_kindBy 8 = .ok (.iconst 1, 1) := by decide +kernel
theorem dX8_kindBy_9 : decode cX8_kindBy 9 = .ok (.goto 53, 3) := by decide +kernel
theorem dX8_kindBy_12 : decode cX8_kindBy 12 = .ok (.lload_n 0, 1) := by decide +kernel
theorem dX8_kindBy_13 : decode cX8_kindBy 13 = .ok (.ldc2_w 140, 3) := by decide +kernel
theorem dX8_kindBy_16 : decode cX8_kindBy 16 = .ok (.lcmp, 1) := by decide +kernel
theorem dX8_kindBy_17 : decode cX8_kindBy 17 = .ok (.ifCond .ne 7, 3) := by decide +kernel
theorem dX8_kindBy_20 : decode cX8_kindBy 20 = .ok (.iconst 5, 1) := by decide +kernel
theorem dX8_kindBy_21 : decode cX8_kindBy 21 = .ok (.goto 41, 3) := by decide +kernel
theorem dX8_kindBy_24 : decode cX8_kindBy 24 = .ok (.lload_n 0, 1) := by decide +kernel
theorem dX8_kindBy_25 : decode cX8_kindBy 25 = .ok (.ldc2_w 142, 3) := by decide +kernel
theorem dX8_kindBy_28 : decode cX8_kindBy 28 = .ok (.lcmp, 1) := by decide +kernel
theorem dX8_kindBy_29 : decode cX8_kindBy 29 = .ok (.ifCond .ne 7, 3) := by decide +kernel
theorem dX8_kindBy_32 : decode cX8_kindBy 32 = .ok (.iconst 2, 1) := by decide +kernel
theorem dX8_kindBy_33 : decode cX8_kindBy 33 = .ok (.goto 29, 3) := by decide +kernel
theorem dX8_kindBy_36 : decode cX8_kindBy 36 = .ok (.lload_n 0, 1) := by decide +kernel
theorem dX8_kindBy_37 : decode cX8_kindBy 37 = .ok (.ldc2_w 144, 3) := by decide +kernel
theorem dX8_kindBy_40 : decode cX8_kindBy 40 = .ok (.lcmp, 1) := by decide +kernel
theorem dX8_kindBy_41 : decode cX8_kindBy 41 = .ok (.ifCond .ne 7, 3) := by decide +kernel
theorem dX8_kindBy_44 : decode cX8_kindBy 44 = .ok (.iconst 3, 1) := by decide +kernel
theorem dX8_kindBy_45 : decode cX8_kindBy 45 = .ok (.goto 17, 3) := by decide +kernel
theorem dX8_kindBy_48 : decode cX8_kindBy 48 = .ok (.lload_n 0, 1) := by decide +kernel
theorem dX8_kindBy_49 : decode cX8_kindBy 49 = .ok (.ldc2_w 146, 3) := by decide +kernel
theorem dX8_kindBy_52 : decode cX8_kindBy 52 = .ok (.lcmp, 1) := by decide +kernel
theorem dX8_kindBy_53 : decode cX8_kindBy 53 = .ok (.ifCond .ne 7, 3) := by decide +kernel
theorem dX8_kindBy_56 : decode cX8_kindBy 56 = .ok (.iconst 4, 1) := by decide +kernel
theorem dX8_kindBy_57 : decode cX8_kindBy 57 = .ok (.goto 5, 3) := by decide +kernel
theorem dX8_kindBy_60 : decode cX8_kindBy 60 = .ok (.ldc 95, 2) := by decide +kernel
theorem dX8_kindBy_62 : decode cX8_kindBy 62 = .ok (.ireturn, 1) := by decide +kernel
theorem dX8_mustEnd_0 : decode cX8_mustEnd 0 = .ok (.aload_n 0, 1) := by decide +kernel
theorem dX8_mustEnd_1 : decode cX8_mustEnd 1 = .ok (.getfield 117, 3) := by decide +kernel
theorem dX8_mustEnd_4 : decode cX8_mustEnd 4 = .ok (.ifCond .ne 20, 3) := by decide +kernel
theorem dX8_mustEnd_7 : decode cX8_mustEnd 7 = .ok (.aload_n 0, 1) := by decide +kernel
theorem dX8_mustEnd_8 : decode cX8_mustEnd 8 = .ok (.aload_n 0, 1) := by decide +kernel
theorem dX8_mustEnd_9 : decode cX8_mustEnd 9 = .ok (.getfield 105, 3) := by decide +kernel
theorem dX8_mustEnd_12 : decode cX8_mustEnd 12 = .ok (.iconst 4, 1) := by decide +kernel
theorem dX8_mustEnd_13 : decode cX8_mustEnd 13 = .ok (.if_icmp .ne 7, 3) := by decide +kernel
theorem dX8_mustEnd_16 : decode cX8_mustEnd 16 = .ok (.iconst 1, 1) := by decide +kernel
theorem dX8_mustEnd_17 : decode cX8_mustEnd 17 = .ok (.goto 4, 3) := by decide +kernel
theorem dX8_mustEnd_20 : decode cX8_mustEnd 20 = .ok (.iconst 0, 1) := by decide +kernel
theorem dX8_mustEnd_21 : decode cX8_mustEnd 21 = .ok (.invokevirtual 134, 3) := by decide +kernel
theorem dX8_mustEnd_24 : decode cX8_mustEnd 24 = .ok (.return_, 1) := by decide +kernel
theorem dX8_begins_0 : decode cX8_begins 0 = .ok (.aload_n 0, 1) := by decide +kernel
theorem dX8_begins_1 : decode cX8_begins 1 = .ok (.getfield 22, 3) := by decide +kernel
theorem dX8_begins_4 : decode cX8_begins 4 = .ok (.iload_n 1, 1) := by decide +kernel
theorem dX8_begins_5 : decode cX8_begins 5 = .ok (.iaload, 1) := by decide +kernel
theorem dX8_begins_6 : decode cX8_begins 6 = .ok (.iload_n 2, 1) := by decide +kernel
theorem dX8_begins_7 : decode cX8_begins 7 = .ok (.if_icmp .ne 8, 3) := by decide +kernel
theorem dX8_begins_10 : decode cX8_begins 10 = .ok (.aload_n 0, 1) := by decide +kernel
theorem dX8_begins_11 : decode cX8_begins 11 = .ok (.iconst 3, 1) := by decide +kernel
theorem dX8_begins_12 : decode cX8_begins 12 = .ok (.invokevirtual 126, 3) := by decide +kernel
theorem dX8_begins_15 : decode cX8_begins 15 = .ok (.aload_n 0, 1) := by decide +kernel
theorem dX8_begins_16 : decode cX8_begins 16 = .ok (.iconst 1, 1) := by decide +kernel
theorem dX8_begins_17 : decode cX8_begins 17 = .ok (.invokevirtual 134, 3) := by decide +kernel
theorem dX8_begins_20 : decode cX8_begins 20 = .ok (.return_, 1) := by decide +kernel
theorem dX8_readRoom_0 : decode cX8_readRoom 0 = .ok (.aload_n 0, 1) := by decide +kernel
theorem dX8_readRoom_1 : decode cX8_readRoom 1 = .ok (.iconst 0, 1) := by decide +kernel
theorem dX8_readRoom_2 : decode cX8_readRoom 2 = .ok (.bipush 6, 2) := by decide +kernel
theorem dX8_readRoom_4 : decode cX8_readRoom 4 = .ok (.invokevirtual 148, 3) := by decide +kernel
theorem dX8_readRoom_7 : decode cX8_readRoom 7 = .ok (.aload_n 0, 1) := by decide +kernel
theorem dX8_readRoom_8 : decode cX8_readRoom 8 = .ok (.iconst 0, 1) := by decide +kernel
theorem dX8_readRoom_9 : decode cX8_readRoom 9 = .ok (.bipush 99, 2) := by decide +kernel
theorem dX8_readRoom_11 : decode cX8_readRoom 11 = .ok (.invokevirtual 152, 3) := by decide +kernel
theorem dX8_readRoom_14 : decode cX8_readRoom 14 = .ok (.istore_n 1, 1) := by decide +kernel
theorem dX8_readRoom_15 : decode cX8_readRoom 15 = .ok (.aload_n 0, 1) := by decide +kernel
theorem dX8_readRoom_16 : decode cX8_readRoom 16 = .ok (.invokevirtual 156, 3) := by decide +kernel
theorem dX8_readRoom_19 : decode cX8_readRoom 19 = .ok (.aload_n 0, 1) := by decide +kernel
theorem dX8_readRoom_20 : decode cX8_readRoom 20 = .ok (.getfield 117, 3) := by decide +kernel
theorem dX8_readRoom_23 : decode cX8_readRoom 23 = .ok (.ifCond .ne 27, 3) := by decide +kernel
theorem dX8_readRoom_26 : decode cX8_readRoom 26 = .ok (.aload_n 0, 1) := by decide +kernel
theorem dX8_readRoom_27 : decode cX8_readRoom 27 = .ok (.getfield 22, 3) := by decide +kernel
theorem dX8_readRoom_30 : decode cX8_readRoom 30 = .ok (.iconst 4, 1) := by decide +kernel
theorem dX8_readRoom_31 : decode cX8_readRoom 31 = .ok (.aload_n 0, 1) := by decide +kernel
theorem dX8_readRoom_32 : decode cX8_readRoom 32 = .ok (.getfield 22, 3) := by decide +kernel
theorem dX8_readRoom_35 : decode cX8_readRoom 35 = .ok (.iconst 0, 1) := by decide +kernel
theorem dX8_readRoom_36 : decode cX8_readRoom 36 = .ok (.iaload, 1) := by decide +kernel
theorem dX8_readRoom_37 : decode cX8_readRoom 37 = .ok (.iadd, 1) := by decide +kernel
theorem dX8_readRoom_38 : decode cX8_readRoom 38 = .ok (.iload_n 1, 1) := by decide +kernel
theorem dX8_readRoom_39 : decode cX8_readRoom 39 = .ok (.iastore, 1) := by decide +kernel
theorem dX8_readRoom_40 : decode cX8_readRoom 40 = .ok (.aload_n 0, 1) := by decide +kernel
theorem dX8_readRoom_41 : decode cX8_readRoom 41 = .ok (.getfield 22, 3) := by decide +kernel
theorem dX8_readRoom_44 : decode cX8_readRoom 44 = .ok (.iconst 0, 1) := by decide +kernel
theorem dX8_readRoom_45 : decode cX8_readRoom 45 = .ok (.dup2, 1) := by decide +kernel
theorem dX8_readRoom_46 : decode cX8_readRoom 46 = .ok (.iaload, 1) := by decide +kernel
theorem dX8_readRoom_47 : decode cX8_readRoom 47 = .ok (.iconst 1, 1) := by decide +kernel
theorem dX8_readRoom_48 : decode cX8_readRoom 48 = .ok (.iadd, 1) := by decide +kernel
theorem dX8_readRoom_49 : decode cX8_readRoom 49 = .ok (.iastore, 1) := by decide +kernel
theorem dX8_readRoom_50 : decode cX8_readRoom 50 = .ok (.return_, 1) := by decide +kernel
theorem dX8_readDoor_0 : decode cX8_readDoor 0 = .ok (.aload_n 0, 1) := by decide +kernel
theorem dX8_readDoor_1 : decode cX8_readDoor 1 = .ok (.iconst 1, 1) := by decide +kernel
theorem dX8_readDoor_2 : decode cX8_readDoor 2 = .ok (.bipush 12, 2) := by decide +kernel
theorem dX8_readDoor_4 : decode cX8_readDoor 4 = .ok (.invokevirtual 148, 3) := by decide +kernel
theorem dX8_readDoor_7 : decode cX8_readDoor 7 = .ok (.aload_n 0, 1) := by decide +kernel
theorem dX8_readDoor_8 : decode cX8_readDoor 8 = .ok (.iconst 0, 1) := by decide +kernel
theorem dX8_readDoor_9 : decode cX8_readDoor 9 = .ok (.aload_n 0, 1) := by decide +kernel
theorem dX8_readDoor_10 : decode cX8_readDoor 10 = .ok (.getfield 22, 3) := by decide +kernel
theorem dX8_readDoor_13 : decode cX8_readDoor 13 = .ok (.iconst 0, 1) := by decide +kernel
theorem dX8_readDoor_14 : decode cX8_readDoor 14 = .ok (.iaload, 1) := by decide +kernel
theorem dX8_readDoor_15 : decode cX8_readDoor 15 = .ok (.iconst 1, 1) := by decide +kernel
theorem dX8_readDoor_16 : decode cX8_readDoor 16 = .ok (.isub, 1) := by decide +kernel
theorem dX8_readDoor_17 : decode cX8_readDoor 17 = .ok (.invokevirtual 152, 3) := by decide +kernel
theorem dX8_readDoor_20 : decode cX8_readDoor 20 = .ok (.istore_n 1, 1) := by decide +kernel
theorem dX8_readDoor_21 : decode cX8_readDoor 21 = .ok (.aload_n 0, 1) := by decide +kernel
theorem dX8_readDoor_22 : decode cX8_readDoor 22 = .ok (.getfield 117, 3) := by decide +kernel
theorem dX8_readDoor_25 : decode cX8_readDoor 25 = .ok (.ifCond .ne 24, 3) := by decide +kernel
theorem dX8_readDoor_28 : decode cX8_readDoor 28 = .ok (.aload_n 0, 1) := by decide +kernel
theorem dX8_readDoor_29 : decode cX8_readDoor 29 = .ok (.getfield 105, 3) := by decide +kernel
theorem dX8_readDoor_32 : decode cX8_readDoor 32 = .ok (.iconst 3, 1) := by decide +kernel
theorem dX8_readDoor_33 : decode cX8_readDoor 33 = .ok (.if_icmp .ne 16, 3) := by decide +kernel
theorem dX8_readDoor_36 : decode cX8_readDoor 36 = .ok (.aload_n 0, 1) := by decide +kernel
theorem dX8_readDoor_37 : decode cX8_readDoor 37 = .ok (.invokevirtual 130, 3) := by decide +kernel
theorem dX8_readDoor_40 : decode cX8_readDoor 40 = .ok (.iload_n 1, 1) := by decide +kernel
theorem dX8_readDoor_41 : decode cX8_readDoor 41 = .ok (.if_icmp .ne 8, 3) := by decide +kernel
theorem dX8_readDoor_44 : decode cX8_readDoor 44 = .ok (.aload_n 0, 1) := by decide +kernel
theorem dX8_readDoor_45 : decode cX8_readDoor 45 = .ok (.iconst 2, 1) := by decide +kernel
theorem dX8_readDoor_46 : decode cX8_readDoor 46 = .ok (.invokevirtual 126, 3) := by decide +kernel
theorem dX8_readDoor_49 : decode cX8_readDoor 49 = .ok (.aload_n 0, 1) := by decide +kernel
theorem dX8_readDoor_50 : decode cX8_readDoor 50 = .ok (.iconst 0, 1) := by decide +kernel
theorem dX8_readDoor_51 : decode cX8_readDoor 51 = .ok (.aload_n 0, 1) := by decide +kernel
theorem dX8_readDoor_52 : decode cX8_readDoor 52 = .ok (.getfield 22, 3) := by decide +kernel
theorem dX8_readDoor_55 : decode cX8_readDoor 55 = .ok (.iconst 0, 1) := by decide +kernel
theorem dX8_readDoor_56 : decode cX8_readDoor 56 = .ok (.iaload, 1) := by decide +kernel
theorem dX8_readDoor_57 : decode cX8_readDoor 57 = .ok (.iconst 1, 1) := by decide +kernel
theorem dX8_readDoor_58 : decode cX8_readDoor 58 = .ok (.isub, 1) := by decide +kernel
theorem dX8_readDoor_59 : decode cX8_readDoor 59 = .ok (.invokevirtual 152, 3) := by decide +kernel
theorem dX8_readDoor_62 : decode cX8_readDoor 62 = .ok (.istore_n 2, 1) := by decide +kernel
theorem dX8_readDoor_63 : decode cX8_readDoor 63 = .ok (.aload_n 0, 1) := by decide +kernel
theorem dX8_readDoor_64 : decode cX8_readDoor 64 = .ok (.invokevirtual 156, 3) := by decide +kernel
theorem dX8_readDoor_67 : decode cX8_readDoor 67 = .ok (.aload_n 0, 1) := by decide +kernel
theorem dX8_readDoor_68 : decode cX8_readDoor 68 = .ok (.getfield 117, 3) := by decide +kernel
theorem dX8_readDoor_71 : decode cX8_readDoor 71 = .ok (.ifCond .ne 43, 3) := by decide +kernel
theorem dX8_readDoor_74 : decode cX8_readDoor 74 = .ok (.aload_n 0, 1) := by decide +kernel
theorem dX8_readDoor_75 : decode cX8_readDoor 75 = .ok (.getfield 22, 3) := by decide +kernel
theorem dX8_readDoor_78 : decode cX8_readDoor 78 = .ok (.bipush 10, 2) := by decide +kernel
theorem dX8_readDoor_80 : decode cX8_readDoor 80 = .ok (.iload_n 1, 1) := by decide +kernel
theorem dX8_readDoor_81 : decode cX8_readDoor 81 = .ok (.iadd, 1) := by decide +kernel
theorem dX8_readDoor_82 : decode cX8_readDoor 82 = .ok (.dup2, 1) := by decide +kernel
theorem dX8_readDoor_83 : decode cX8_readDoor 83 = .ok (.iaload, 1) := by decide +kernel
theorem dX8_readDoor_84 : decode cX8_readDoor 84 = .ok (.iconst 1, 1) := by decide +kernel
theorem dX8_readDoor_85 : decode cX8_readDoor 85 = .ok (.iload_n 2, 1) := by decide +kernel
theorem dX8_readDoor_86 : decode cX8_readDoor 86 = .ok (.ishl, 1) := by decide +kernel
theorem dX8_readDoor_87 : decode cX8_readDoor 87 = .ok (.ior, 1) := by decide +kernel
theorem dX8_readDoor_88 : decode cX8_readDoor 88 = .ok (.iastore, 1) := by decide +kernel
theorem dX8_readDoor_89 : decode cX8_readDoor 89 = .ok (.aload_n 0, 1) := by decide +kernel
theorem dX8_readDoor_90 : decode cX8_readDoor 90 = .ok (.getfield 22, 3) := by decide +kernel
theorem dX8_readDoor_93 : decode cX8_readDoor 93 = .ok (.bipush 10, 2) := by decide +kernel
theorem dX8_readDoor_95 : decode cX8_readDoor 95 = .ok (.iload_n 2, 1) := by decide +kernel
theorem dX8_readDoor_96 : decode cX8_readDoor 96 = .ok (.iadd, 1) := by decide +kernel
theorem dX8_readDoor_97 : decode cX8_readDoor 97 = .ok (.dup2, 1) := by decide +kernel
theorem dX8_readDoor_98 : decode cX8_readDoor 98 = .ok (.iaload, 1) := by decide +kernel
theorem dX8_readDoor_99 : decode cX8_readDoor 99 = .ok (.iconst 1, 1) := by decide +kernel
theorem dX8_readDoor_100 : decode cX8_readDoor 100 = .ok (.iload_n 1, 1) := by decide +kernel
theorem dX8_readDoor_101 : decode cX8_readDoor 101 = .ok (.ishl, 1) := by decide +kernel
theorem dX8_readDoor_102 : decode cX8_readDoor 102 = .ok (.ior, 1) := by decide +kernel
theorem dX8_readDoor_103 : decode cX8_readDoor 103 = .ok (.iastore, 1) := by decide +kernel
theorem dX8_readDoor_104 : decode cX8_readDoor 104 = .ok (.aload_n 0, 1) := by decide +kernel
theorem dX8_readDoor_105 : decode cX8_readDoor 105 = .ok (.getfield 22, 3) := by decide +kernel
theorem dX8_readDoor_108 : decode cX8_readDoor 108 = .ok (.iconst 1, 1) := by decide +kernel
theorem dX8_readDoor_109 : decode cX8_readDoor 109 = .ok (.dup2, 1) := by decide +kernel
theorem dX8_readDoor_110 : decode cX8_readDoor 110 = .ok (.iaload, 1) := by decide +kernel
theorem dX8_readDoor_111 : decode cX8_readDoor 111 = .ok (.iconst 1, 1) := by decide +kernel
theorem dX8_readDoor_112 : decode cX8_readDoor 112 = .ok (.iadd, 1) := by decide +kernel
theorem dX8_readDoor_113 : decode cX8_readDoor 113 = .ok (.iastore, 1) := by decide +kernel
theorem dX8_readDoor_114 : decode cX8_readDoor 114 = .ok (.return_, 1) := by decide +kernel
theorem dX8_readCrowd_0 : decode cX8_readCrowd 0 = .ok (.aload_n 0, 1) := by decide +kernel
theorem dX8_readCrowd_1 : decode cX8_readCrowd 1 = .ok (.iconst 2, 1) := by decide +kernel
theorem dX8_readCrowd_2 : decode cX8_readCrowd 2 = .ok (.iconst 5, 1) := by decide +kernel
theorem dX8_readCrowd_3 : decode cX8_readCrowd 3 = .ok (.invokevirtual 148, 3) := by decide +kernel
theorem dX8_readCrowd_6 : decode cX8_readCrowd 6 = .ok (.aload_n 0, 1) := by decide +kernel
theorem dX8_readCrowd_7 : decode cX8_readCrowd 7 = .ok (.invokevirtual 159, 3) := by decide +kernel
theorem dX8_readCrowd_10 : decode cX8_readCrowd 10 = .ok (.invokestatic 163, 3) := by decide +kernel
theorem dX8_readCrowd_13 : decode cX8_readCrowd 13 = .ok (.istore_n 1, 1) := by decide +kernel
theorem dX8_readCrowd_14 : decode cX8_readCrowd 14 = .ok (.aload_n 0, 1) := by decide +kernel
theorem dX8_readCrowd_15 : decode cX8_readCrowd 15 = .ok (.getfield 117, 3) := by decide +kernel
theorem dX8_readCrowd_18 : decode cX8_readCrowd 18 = .ok (.ifCond .ne 18, 3) := by decide +kernel
theorem dX8_readCrowd_21 : decode cX8_readCrowd 21 = .ok (.aload_n 0, 1) := by decide +kernel
theorem dX8_readCrowd_22 : decode cX8_readCrowd 22 = .ok (.iload_n 1, 1) := by decide +kernel
theorem dX8_readCrowd_23 : decode cX8_readCrowd 23 = .ok (.ldc 95, 2) := by decide +kernel
theorem dX8_readCrowd_25 : decode cX8_readCrowd 25 = .ok (.if_icmp .eq 7, 3) := by decide +kernel
theorem dX8_readCrowd_28 : decode cX8_readCrowd 28 = .ok (.iconst 1, 1) := by decide +kernel
theorem dX8_readCrowd_29 : decode cX8_readCrowd 29 = .ok (.goto 4, 3) := by decide +kernel
theorem dX8_readCrowd_32 : decode cX8_readCrowd 32 = .ok (.iconst 0, 1) := by decide +kernel
theorem dX8_readCrowd_33 : decode cX8_readCrowd 33 = .ok (.invokevirtual 134, 3) := by decide +kernel
theorem dX8_readCrowd_36 : decode cX8_readCrowd 36 = .ok (.aload_n 0, 1) := by decide +kernel
theorem dX8_readCrowd_37 : decode cX8_readCrowd 37 = .ok (.iconst 0, 1) := by decide +kernel
theorem dX8_readCrowd_38 : decode cX8_readCrowd 38 = .ok (.aload_n 0, 1) := by decide +kernel
theorem dX8_readCrowd_39 : decode cX8_readCrowd 39 = .ok (.getfield 22, 3) := by decide +kernel
theorem dX8_readCrowd_42 : decode cX8_readCrowd 42 = .ok (.iconst 0, 1) := by decide +kernel
theorem dX8_readCrowd_43 : decode cX8_readCrowd 43 = .ok (.iaload, 1) := by decide +kernel
theorem dX8_readCrowd_44 : decode cX8_readCrowd 44 = .ok (.iconst 1, 1) := by decide +kernel
theorem dX8_readCrowd_45 : decode cX8_readCrowd 45 = .ok (.isub, 1) := by decide +kernel
theorem dX8_readCrowd_46 : decode cX8_readCrowd 46 = .ok (.invokevirtual 152, 3) := by decide +kernel
theorem dX8_readCrowd_49 : decode cX8_readCrowd 49 = .ok (.istore_n 2, 1) := by decide +kernel
theorem dX8_readCrowd_50 : decode cX8_readCrowd 50 = .ok (.aload_n 0, 1) := by decide +kernel
theorem dX8_readCrowd_51 : decode cX8_readCrowd 51 = .ok (.iconst 1, 1) := by decide +kernel
theorem dX8_readCrowd_52 : decode cX8_readCrowd 52 = .ok (.bipush 50, 2) := by decide +kernel
theorem dX8_readCrowd_54 : decode cX8_readCrowd 54 = .ok (.invokevirtual 152, 3) := by decide +kernel
theorem dX8_readCrowd_57 : decode cX8_readCrowd 57 = .ok (.istore_n 3, 1) := by decide +kernel
theorem dX8_readCrowd_58 : decode cX8_readCrowd 58 = .ok (.aload_n 0, 1) := by decide +kernel
theorem dX8_readCrowd_59 : decode cX8_readCrowd 59 = .ok (.invokevirtual 156, 3) := by decide +kernel
theorem dX8_readCrowd_62 : decode cX8_readCrowd 62 = .ok (.aload_n 0, 1) := by decide +kernel
theorem dX8_readCrowd_63 : decode cX8_readCrowd 63 = .ok (.getfield 117, 3) := by decide +kernel
theorem dX8_readCrowd_66 : decode cX8_readCrowd 66 = .ok (.ifCond .ne 54, 3) := by decide +kernel
theorem dX8_readCrowd_69 : decode cX8_readCrowd 69 = .ok (.bipush 22, 2) := by decide +kernel
theorem dX8_readCrowd_71 : decode cX8_readCrowd 71 = .ok (.iconst 3, 1) := by decide +kernel
theorem dX8_readCrowd_72 : decode cX8_readCrowd 72 = .ok (.aload_n 0, 1) := by decide +kernel
theorem dX8_readCrowd_73 : decode cX8_readCrowd 73 = .ok (.getfield 22, 3) := by decide +kernel
theorem dX8_readCrowd_76 : decode cX8_readCrowd 76 = .ok (.iconst 2, 1) := by decide +kernel
theorem dX8_readCrowd_77 : decode cX8_readCrowd 77 = .ok (.iaload, 1) := by decide +kernel
theorem dX8_readCrowd_78 : decode cX8_readCrowd 78 = .ok (.imul, 1) := by decide +kernel
theorem dX8_readCrowd_79 : decode cX8_readCrowd 79 = .ok (.iadd, 1) := by decide +kernel
theorem dX8_readCrowd_80 : decode cX8_readCrowd 80 = .ok (.istore 4, 2) := by decide +kernel
theorem dX8_readCrowd_82 : decode cX8_readCrowd 82 = .ok (.aload_n 0, 1) := by decide +kernel
theorem dX8_readCrowd_83 : decode cX8_readCrowd 83 = .ok (.getfield 22, 3) := by decide +kernel
theorem dX8_readCrowd_86 : decode cX8_readCrowd 86 = .ok (.iload 4, 2) := by decide +kernel
theorem dX8_readCrowd_88 : decode cX8_readCrowd 88 = .ok (.iload_n 1, 1) := by decide +kernel
theorem dX8_readCrowd_89 : decode cX8_readCrowd 89 = .ok (.iastore, 1) := by decide +kernel
theorem dX8_readCrowd_90 : decode cX8_readCrowd 90 = .ok (.aload_n 0, 1) := by decide +kernel
theorem dX8_readCrowd_91 : decode cX8_readCrowd 91 = .ok (.getfield 22, 3) := by decide +kernel
theorem dX8_readCrowd_94 : decode cX8_readCrowd 94 = .ok (.iload 4, 2) := by decide +kernel
theorem dX8_readCrowd_96 : decode cX8_readCrowd 96 = .ok (.iconst 1, 1) := by decide +kernel
theorem dX8_readCrowd_97 : decode cX8_readCrowd 97 = .ok (.iadd, 1) := by decide +kernel
theorem dX8_readCrowd_98 : decode cX8_readCrowd 98 = .ok (.iload_n 2, 1) := by decide +kernel
theorem dX8_readCrowd_99 : decode cX8_readCrowd 99 = .ok (.iastore, 1) := by decide +kernel
theorem dX8_readCrowd_100 : decode cX8_readCrowd 100 = .ok (.aload_n 0, 1) := by decide +kernel
theorem dX8_readCrowd_101 : decode cX8_readCrowd 101 = .ok (.getfield 22, 3) := by decide +kernel
theorem dX8_readCrowd_104 : decode cX8_readCrowd 104 = .ok (.iload 4, 2) := by decide +kernel
theorem dX8_readCrowd_106 : decode cX8_readCrowd 106 = .ok (.iconst 2, 1) := by decide +kernel
theorem dX8_readCrowd_107 : decode cX8_readCrowd 107 = .ok (.iadd, 1) := by decide +kernel
theorem dX8_readCrowd_108 : decode cX8_readCrowd 108 = .ok (.iload_n 3, 1) := by decide +kernel
theorem dX8_readCrowd_109 : decode cX8_readCrowd 109 = .ok (.iastore, 1) := by decide +kernel
theorem dX8_readCrowd_110 : decode cX8_readCrowd 110 = .ok (.aload_n 0, 1) := by decide +kernel
theorem dX8_readCrowd_111 : decode cX8_readCrowd 111 = .ok (.getfield 22, 3) := by decide +kernel
theorem dX8_readCrowd_114 : decode cX8_readCrowd 114 = .ok (.iconst 2, 1) := by decide +kernel
theorem dX8_readCrowd_115 : decode cX8_readCrowd 115 = .ok (.dup2, 1) := by decide +kernel
theorem dX8_readCrowd_116 : decode cX8_readCrowd 116 = .ok (.iaload, 1) := by decide +kernel
theorem dX8_readCrowd_117 : decode cX8_readCrowd 117 = .ok (.iconst 1, 1) := by decide +kernel
theorem dX8_readCrowd_118 : decode cX8_readCrowd 118 = .ok (.iadd, 1) := by decide +kernel
theorem dX8_readCrowd_119 : decode cX8_readCrowd 119 = .ok (.iastore, 1) := by decide +kernel
theorem dX8_readCrowd_120 : decode cX8_readCrowd 120 = .ok (.return_, 1) := by decide +kernel
theorem dX8_house_0 : decode cX8_house 0 = .ok (.aload_n 0, 1) := by decide +kernel
theorem dX8_house_1 : decode cX8_house 1 = .ok (.iconst 0, 1) := by decide +kernel
theorem dX8_house_2 : decode cX8_house 2 = .ok (.putfield 59, 3) := by decide +kernel
theorem dX8_house_5 : decode cX8_house 5 = .ok (.aload_n 0, 1) := by decide +kernel
theorem dX8_house_6 : decode cX8_house 6 = .ok (.invokevirtual 167, 3) := by decide +kernel
theorem dX8_house_9 : decode cX8_house 9 = .ok (.iconst 0, 1) := by decide +kernel
theorem dX8_house_10 : decode cX8_house 10 = .ok (.istore_n 1, 1) := by decide +kernel
theorem dX8_house_11 : decode cX8_house 11 = .ok (.iload_n 1, 1) := by decide +kernel
theorem dX8_house_12 : decode cX8_house 12 = .ok (.bipush 37, 2) := by decide +kernel
theorem dX8_house_14 : decode cX8_house 14 = .ok (.if_icmp .ge 16, 3) := by decide +kernel
theorem dX8_house_17 : decode cX8_house 17 = .ok (.aload_n 0, 1) := by decide +kernel
theorem dX8_house_18 : decode cX8_house 18 = .ok (.getfield 22, 3) := by decide +kernel
theorem dX8_house_21 : decode cX8_house 21 = .ok (.iload_n 1, 1) := by decide +kernel
theorem dX8_house_22 : decode cX8_house 22 = .ok (.iconst 0, 1) := by decide +kernel
theorem dX8_house_23 : decode cX8_house 23 = .ok (.iastore, 1) := by decide +kernel
theorem dX8_house_24 : decode cX8_house 24 = .ok (.iinc 1 1, 3) := by decide +kernel
theorem dX8_house_27 : decode cX8_house 27 = .ok (.goto (-16), 3) := by decide +kernel
theorem dX8_house_30 : decode cX8_house 30 = .ok (.aload_n 0, 1) := by decide +kernel
theorem dX8_house_31 : decode cX8_house 31 = .ok (.invokevirtual 159, 3) := by decide +kernel
theorem dX8_house_34 : decode cX8_house 34 = .ok (.ldc2_w 170, 3) := by decide +kernel
theorem dX8_house_37 : decode cX8_house 37 = .ok (.lcmp, 1) := by decide +kernel
theorem dX8_house_38 : decode cX8_house 38 = .ok (.ifCond .eq 8, 3) := by decide +kernel
theorem dX8_house_41 : decode cX8_house 41 = .ok (.aload_n 0, 1) := by decide +kernel
theorem dX8_house_42 : decode cX8_house 42 = .ok (.iconst 1, 1) := by decide +kernel
theorem dX8_house_43 : decode cX8_house 43 = .ok (.invokevirtual 126, 3) := by decide +kernel
theorem dX8_house_46 : decode cX8_house 46 = .ok (.aload_n 0, 1) := by decide +kernel
theorem dX8_house_47 : decode cX8_house 47 = .ok (.invokevirtual 159, 3) := by decide +kernel
theorem dX8_house_50 : decode cX8_house 50 = .ok (.ldc2_w 170, 3) := by decide +kernel
theorem dX8_house_53 : decode cX8_house 53 = .ok (.lcmp, 1) := by decide +kernel
theorem dX8_house_54 : decode cX8_house 54 = .ok (.ifCond .ne 10, 3) := by decide +kernel
theorem dX8_house_57 : decode cX8_house 57 = .ok (.aload_n 0, 1) := by decide +kernel
theorem dX8_house_58 : decode cX8_house 58 = .ok (.invokevirtual 172, 3) := by decide +kernel
theorem dX8_house_61 : decode cX8_house 61 = .ok (.goto (-15), 3) := by decide +kernel
theorem dX8_house_64 : decode cX8_house 64 = .ok (.aload_n 0, 1) := by decide +kernel
theorem dX8_house_65 : decode cX8_house 65 = .ok (.invokevirtual 159, 3) := by decide +kernel
theorem dX8_house_68 : decode cX8_house 68 = .ok (.ldc2_w 175, 3) := by decide +kernel
theorem dX8_house_71 : decode cX8_house 71 = .ok (.lcmp, 1) := by decide +kernel
theorem dX8_house_72 : decode cX8_house 72 = .ok (.ifCond .ne 10, 3) := by decide +kernel
theorem dX8_house_75 : decode cX8_house 75 = .ok (.aload_n 0, 1) := by decide +kernel
theorem dX8_house_76 : decode cX8_house 76 = .ok (.invokevirtual 177, 3) := by decide +kernel
theorem dX8_house_79 : decode cX8_house 79 = .ok (.goto (-15), 3) := by decide +kernel
theorem dX8_house_82 : decode cX8_house 82 = .ok (.aload_n 0, 1) := by decide +kernel
theorem dX8_house_83 : decode cX8_house 83 = .ok (.invokevirtual 159, 3) := by decide +kernel
theorem dX8_house_86 : decode cX8_house 86 = .ok (.ldc2_w 180, 3) := by decide +kernel
theorem dX8_house_89 : decode cX8_house 89 = .ok (.lcmp, 1) := by decide +kernel
theorem dX8_house_90 : decode cX8_house 90 = .ok (.ifCond .ne 10, 3) := by decide +kernel
theorem dX8_house_93 : decode cX8_house 93 = .ok (.aload_n 0, 1) := by decide +kernel
theorem dX8_house_94 : decode cX8_house 94 = .ok (.invokevirtual 182, 3) := by decide +kernel
theorem dX8_house_97 : decode cX8_house 97 = .ok (.goto (-15), 3) := by decide +kernel
theorem dX8_house_100 : decode cX8_house 100 = .ok (.aload_n 0, 1) := by decide +kernel
theorem dX8_house_101 : decode cX8_house 101 = .ok (.getfield 117, 3) := by decide +kernel
theorem dX8_house_104 : decode cX8_house 104 = .ok (.ifCond .ne 16, 3) := by decide +kernel
theorem dX8_house_107 : decode cX8_house 107 = .ok (.aload_n 0, 1) := by decide +kernel
theorem dX8_house_108 : decode cX8_house 108 = .ok (.getfield 105, 3) := by decide +kernel
theorem dX8_house_111 : decode cX8_house 111 = .ok (.iconst 1, 1) := by decide +kernel
theorem dX8_house_112 : decode cX8_house 112 = .ok (.if_icmp .eq 8, 3) := by decide +kernel
theorem dX8_house_115 : decode cX8_house 115 = .ok (.aload_n 0, 1) := by decide +kernel
theorem dX8_house_116 : decode cX8_house 116 = .ok (.iconst 1, 1) := by decide +kernel
theorem dX8_house_117 : decode cX8_house 117 = .ok (.invokevirtual 126, 3) := by decide +kernel
theorem dX8_house_120 : decode cX8_house 120 = .ok (.aload_n 0, 1) := by decide +kernel
theorem dX8_house_121 : decode cX8_house 121 = .ok (.getfield 117, 3) := by decide +kernel
theorem dX8_house_124 : decode cX8_house 124 = .ok (.ifCond .le 19, 3) := by decide +kernel
theorem dX8_house_127 : decode cX8_house 127 = .ok (.aload_n 0, 1) := by decide +kernel
theorem dX8_house_128 : decode cX8_house 128 = .ok (.aload_n 0, 1) := by decide +kernel
theorem dX8_house_129 : decode cX8_house 129 = .ok (.getfield 117, 3) := by decide +kernel
theorem dX8_house_132 : decode cX8_house 132 = .ok (.putfield 185, 3) := by decide +kernel
theorem dX8_house_135 : decode cX8_house 135 = .ok (.ldc 188, 2) := by decide +kernel
theorem dX8_house_137 : decode cX8_house 137 = .ok (.aload_n 0, 1) := by decide +kernel
theorem dX8_house_138 : decode cX8_house 138 = .ok (.getfield 123, 3) := by decide +kernel
theorem dX8_house_141 : decode cX8_house 141 = .ok (.isub, 1) := by decide +kernel
theorem dX8_house_142 : decode cX8_house 142 = .ok (.ireturn, 1) := by decide +kernel
theorem dX8_house_143 : decode cX8_house 143 = .ok (.aload_n 0, 1) := by decide +kernel
theorem dX8_house_144 : decode cX8_house 144 = .ok (.iconst 0, 1) := by decide +kernel
theorem dX8_house_145 : decode cX8_house 145 = .ok (.putfield 189, 3) := by decide +kernel
theorem dX8_house_148 : decode cX8_house 148 = .ok (.iconst 0, 1) := by decide +kernel
theorem dX8_house_149 : decode cX8_house 149 = .ok (.istore_n 1, 1) := by decide +kernel
theorem dX8_house_150 : decode cX8_house 150 = .ok (.iload_n 1, 1) := by decide +kernel
theorem dX8_house_151 : decode cX8_house 151 = .ok (.bipush 37, 2) := by decide +kernel
theorem dX8_house_153 : decode cX8_house 153 = .ok (.if_icmp .ge 21, 3) := by decide +kernel
theorem dX8_house_156 : decode cX8_house 156 = .ok (.aload_n 0, 1) := by decide +kernel
theorem dX8_house_157 : decode cX8_house 157 = .ok (.getfield 19, 3) := by decide +kernel
theorem dX8_house_160 : decode cX8_house 160 = .ok (.iload_n 1, 1) := by decide +kernel
theorem dX8_house_161 : decode cX8_house 161 = .ok (.aload_n 0, 1) := by decide +kernel
theorem dX8_house_162 : decode cX8_house 162 = .ok (.getfield 22, 3) := by decide +kernel
theorem dX8_house_165 : decode cX8_house 165 = .ok (.iload_n 1, 1) := by decide +kernel
theorem dX8_house_166 : decode cX8_house 166 = .ok (.iaload, 1) := by decide +kernel
theorem dX8_house_167 : decode cX8_house 167 = .ok (.iastore, 1) := by decide +kernel
theorem dX8_house_168 : decode cX8_house 168 = .ok (.iinc 1 1, 3) := by decide +kernel
theorem dX8_house_171 : decode cX8_house 171 = .ok (.goto (-21), 3) := by decide +kernel
theorem dX8_house_174 : decode cX8_house 174 = .ok (.aload_n 0, 1) := by decide +kernel
theorem dX8_house_175 : decode cX8_house 175 = .ok (.getfield 19, 3) := by decide +kernel
theorem dX8_house_178 : decode cX8_house 178 = .ok (.iconst 0, 1) := by decide +kernel
theorem dX8_house_179 : decode cX8_house 179 = .ok (.iaload, 1) := by decide +kernel
theorem dX8_house_180 : decode cX8_house 180 = .ok (.ireturn, 1) := by decide +kernel
theorem dX8_fault_0 : decode cX8_fault 0 = .ok (.aload_n 0, 1) := by decide +kernel
theorem dX8_fault_1 : decode cX8_fault 1 = .ok (.iconst 0, 1) := by decide +kernel
theorem dX8_fault_2 : decode cX8_fault 2 = .ok (.putfield 59, 3) := by decide +kernel
theorem dX8_fault_5 : decode cX8_fault 5 = .ok (.aload_n 0, 1) := by decide +kernel
theorem dX8_fault_6 : decode cX8_fault 6 = .ok (.getfield 185, 3) := by decide +kernel
theorem dX8_fault_9 : decode cX8_fault 9 = .ok (.ireturn, 1) := by decide +kernel
theorem dX8_isThere_0 : decode cX8_isThere 0 = .ok (.aload_n 0, 1) := by decide +kernel
theorem dX8_isThere_1 : decode cX8_isThere 1 = .ok (.getfield 19, 3) := by decide +kernel
theorem dX8_isThere_4 : decode cX8_isThere 4 = .ok (.iconst 0, 1) := by decide +kernel
theorem dX8_isThere_5 : decode cX8_isThere 5 = .ok (.iaload, 1) := by decide +kernel
theorem dX8_isThere_6 : decode cX8_isThere 6 = .ok (.ifCond .le 7, 3) := by decide +kernel
theorem dX8_isThere_9 : decode cX8_isThere 9 = .ok (.iconst 1, 1) := by decide +kernel
theorem dX8_isThere_10 : decode cX8_isThere 10 = .ok (.goto 4, 3) := by decide +kernel
theorem dX8_isThere_13 : decode cX8_isThere 13 = .ok (.iconst 0, 1) := by decide +kernel
theorem dX8_isThere_14 : decode cX8_isThere 14 = .ok (.ireturn, 1) := by decide +kernel
theorem dX8_isRoom_0 : decode cX8_isRoom 0 = .ok (.iload_n 1, 1) := by decide +kernel
theorem dX8_isRoom_1 : decode cX8_isRoom 1 = .ok (.i2l, 1) := by decide +kernel
theorem dX8_isRoom_2 : decode cX8_isRoom 2 = .ok (.lconst 0, 1) := by decide +kernel
theorem dX8_isRoom_3 : decode cX8_isRoom 3 = .ok (.aload_n 0, 1) := by decide +kernel
theorem dX8_isRoom_4 : decode cX8_isRoom 4 = .ok (.getfield 19, 3) := by decide +kernel
theorem dX8_isRoom_7 : decode cX8_isRoom 7 = .ok (.iconst 0, 1) := by decide +kernel
theorem dX8_isRoom_8 : decode cX8_isRoom 8 = .ok (.iaload, 1) := by decide +kernel
theorem dX8_isRoom_9 : decode cX8_isRoom 9 = .ok (.iconst 1, 1) := by decide +kernel
theorem dX8_isRoom_10 : decode cX8_isRoom 10 = .ok (.isub, 1) := by decide +kernel
theorem dX8_isRoom_11 : decode cX8_isRoom 11 = .ok (.i2l, 1) := by decide +kernel
theorem dX8_isRoom_12 : decode cX8_isRoom 12 = .ok (.invokestatic 69, 3) := by decide +kernel
theorem dX8_isRoom_15 : decode cX8_isRoom 15 = .ok (.ireturn, 1) := by decide +kernel
theorem dX8_isCrowd_0 : decode cX8_isCrowd 0 = .ok (.iload_n 1, 1) := by decide +kernel
theorem dX8_isCrowd_1 : decode cX8_isCrowd 1 = .ok (.i2l, 1) := by decide +kernel
theorem dX8_isCrowd_2 : decode cX8_isCrowd 2 = .ok (.lconst 0, 1) := by decide +kernel
theorem dX8_isCrowd_3 : decode cX8_isCrowd 3 = .ok (.aload_n 0, 1) := by decide +kernel
theorem dX8_isCrowd_4 : decode cX8_isCrowd 4 = .ok (.getfield 19, 3) := by decide +kernel
theorem dX8_isCrowd_7 : decode cX8_isCrowd 7 = .ok (.iconst 2, 1) := by decide +kernel
theorem dX8_isCrowd_8 : decode cX8_isCrowd 8 = .ok (.iaload, 1) := by decide +kernel
theorem dX8_isCrowd_9 : decode cX8_isCrowd 9 = .ok (.iconst 1, 1) := by decide +kernel
theorem dX8_isCrowd_10 : decode cX8_isCrowd 10 = .ok (.isub, 1) := by decide +kernel
theorem dX8_isCrowd_11 : decode cX8_isCrowd 11 = .ok (.i2l, 1) := by decide +kernel
theorem dX8_isCrowd_12 : decode cX8_isCrowd 12 = .ok (.invokestatic 69, 3) := by decide +kernel
theorem dX8_isCrowd_15 : decode cX8_isCrowd 15 = .ok (.ireturn, 1) := by decide +kernel
theorem dX8_of_0 : decode cX8_of 0 = .ok (.aload_n 0, 1) := by decide +kernel
theorem dX8_of_1 : decode cX8_of 1 = .ok (.getfield 19, 3) := by decide +kernel
theorem dX8_of_4 : decode cX8_of 4 = .ok (.bipush 22, 2) := by decide +kernel
theorem dX8_of_6 : decode cX8_of 6 = .ok (.iconst 3, 1) := by decide +kernel
theorem dX8_of_7 : decode cX8_of 7 = .ok (.iload_n 1, 1) := by decide +kernel
theorem dX8_of_8 : decode cX8_of 8 = .ok (.imul, 1) := by decide +kernel
theorem dX8_of_9 : decode cX8_of 9 = .ok (.iadd, 1) := by decide +kernel
theorem dX8_of_10 : decode cX8_of 10 = .ok (.iload_n 2, 1) := by decide +kernel
theorem dX8_of_11 : decode cX8_of 11 = .ok (.iadd, 1) := by decide +kernel
theorem dX8_of_12 : decode cX8_of 12 = .ok (.iaload, 1) := by decide +kernel
theorem dX8_of_13 : decode cX8_of 13 = .ok (.ireturn, 1) := by decide +kernel
theorem dX8_layNow_0 : decode cX8_layNow 0 = .ok (.aload_n 0, 1) := by decide +kernel
theorem dX8_layNow_1 : decode cX8_layNow 1 = .ok (.aload_n 0, 1) := by decide +kernel
theorem dX8_layNow_2 : decode cX8_layNow 2 = .ok (.getfield 19, 3) := by decide +kernel
theorem dX8_layNow_5 : decode cX8_layNow 5 = .ok (.iconst 3, 1) := by decide +kernel
theorem dX8_layNow_6 : decode cX8_layNow 6 = .ok (.iaload, 1) := by decide +kernel
theorem dX8_layNow_7 : decode cX8_layNow 7 = .ok (.putfield 192, 3) := by decide +kernel
theorem dX8_layNow_10 : decode cX8_layNow 10 = .ok (.aload_n 0, 1) := by decide +kernel
theorem dX8_layNow_11 : decode cX8_layNow 11 = .ok (.iconst 0, 1) := by decide +kernel
theorem dX8_layNow_12 : decode cX8_layNow 12 = .ok (.putfield 195, 3) := by decide +kernel
theorem dX8_layNow_15 : decode cX8_layNow 15 = .ok (.aload_n 0, 1) := by decide +kernel
theorem dX8_layNow_16 : decode cX8_layNow 16 = .ok (.iconst 0, 1) := by decide +kernel
theorem dX8_layNow_17 : decode cX8_layNow 17 = .ok (.putfield 198, 3) := by decide +kernel
theorem dX8_layNow_20 : decode cX8_layNow 20 = .ok (.iconst 0, 1) := by decide +kernel
theorem dX8_layNow_21 : decode cX8_layNow 21 = .ok (.istore_n 1, 1) := by decide +kernel
theorem dX8_layNow_22 : decode cX8_layNow 22 = .ok (.iload_n 1, 1) := by decide +kernel
theorem dX8_layNow_23 : decode cX8_layNow 23 = .ok (.aload_n 0, 1) := by decide +kernel
theorem dX8_layNow_24 : decode cX8_layNow 24 = .ok (.getfield 19, 3) := by decide +kernel
theorem dX8_layNow_27 : decode cX8_layNow 27 = .ok (.iconst 0, 1) := by decide +kernel
theorem dX8_layNow_28 : decode cX8_layNow 28 = .ok (.iaload, 1) := by decide +kernel
theorem dX8_layNow_29 : decode cX8_layNow 29 = .ok (.if_icmp .ge 39, 3) := by decide +kernel
theorem dX8_layNow_32 : decode cX8_layNow 32 = .ok (.aload_n 0, 1) := by decide +kernel
theorem dX8_layNow_33 : decode cX8_layNow 33 = .ok (.getfield 37, 3) := by decide +kernel
theorem dX8_layNow_36 : decode cX8_layNow 36 = .ok (.iload_n 1, 1) := by decide +kernel
theorem dX8_layNow_37 : decode cX8_layNow 37 = .ok (.aload_n 0, 1) := by decide +kernel
theorem dX8_layNow_38 : decode cX8_layNow 38 = .ok (.getfield 19, 3) := by decide +kernel
theorem dX8_layNow_41 : decode cX8_layNow 41 = .ok (.bipush 10, 2) := by decide +kernel
theorem dX8_layNow_43 : decode cX8_layNow 43 = .ok (.iload_n 1, 1) := by decide +kernel
theorem dX8_layNow_44 : decode cX8_layNow 44 = .ok (.iadd, 1) := by decide +kernel
theorem dX8_layNow_45 : decode cX8_layNow 45 = .ok (.iaload, 1) := by decide +kernel
theorem dX8_layNow_46 : decode cX8_layNow 46 = .ok (.iastore, 1) := by decide +kernel
theorem dX8_layNow_47 : decode cX8_layNow 47 = .ok (.aload_n 0, 1) := by decide +kernel
theorem dX8_layNow_48 : decode cX8_layNow 48 = .ok (.getfield 46, 3) := by decide +kernel
theorem dX8_layNow_51 : decode cX8_layNow 51 = .ok (.iload_n 1, 1) := by decide +kernel
theorem dX8_layNow_52 : decode cX8_layNow 52 = .ok (.aload_n 0, 1) := by decide +kernel
theorem dX8_layNow_53 : decode cX8_layNow 53 = .ok (.getfield 19, 3) := by decide +kernel
theorem dX8_layNow_56 : decode cX8_layNow 56 = .ok (.bipush 16, 2) := by decide +kernel
theorem dX8_layNow_58 : decode cX8_layNow 58 = .ok (.iload_n 1, 1) := by decide +kernel
theorem dX8_layNow_59 : decode cX8_layNow 59 = .ok (.iadd, 1) := by decide +kernel
theorem dX8_layNow_60 : decode cX8_layNow 60 = .ok (.iaload, 1) := by decide +kernel
theorem dX8_layNow_61 : decode cX8_layNow 61 = .ok (.iastore, 1) := by decide +kernel
theorem dX8_layNow_62 : decode cX8_layNow 62 = .ok (.iinc 1 1, 3) := by decide +kernel
theorem dX8_layNow_65 : decode cX8_layNow 65 = .ok (.goto (-43), 3) := by decide +kernel
theorem dX8_layNow_68 : decode cX8_layNow 68 = .ok (.iconst 0, 1) := by decide +kernel
theorem dX8_layNow_69 : decode cX8_layNow 69 = .ok (.istore_n 1, 1) := by decide +kernel
theorem dX8_layNow_70 : decode cX8_layNow 70 = .ok (.iload_n 1, 1) := by decide +kernel
theorem dX8_layNow_71 : decode cX8_layNow 71 = .ok (.aload_n 0, 1) := by decide +kernel
theorem dX8_layNow_72 : decode cX8_layNow 72 = .ok (.getfield 19, 3) := by decide +kernel
theorem dX8_layNow_75 : decode cX8_layNow 75 = .ok (.iconst 2, 1) := by decide +kernel
theorem dX8_layNow_76 : decode cX8_layNow 76 = .ok (.iaload, 1) := by decide +kernel
theorem dX8_layNow_77 : decode cX8_layNow 77 = .ok (.if_icmp .ge 21, 3) := by decide +kernel
theorem dX8_layNow_80 : decode cX8_layNow 80 = .ok (.aload_n 0, 1) := by decide +kernel
theorem dX8_layNow_81 : decode cX8_layNow 81 = .ok (.getfield 31, 3) := by decide +kernel
theorem dX8_layNow_84 : decode cX8_layNow 84 = .ok (.iload_n 1, 1) := by decide +kernel
theorem dX8_layNow_85 : decode cX8_layNow 85 = .ok (.aload_n 0, 1) := by decide +kernel
theorem dX8_layNow_86 : decode cX8_layNow 86 = .ok (.iload_n 1, 1) := by decide +kernel
theorem dX8_layNow_87 : decode cX8_layNow 87 = .ok (.iconst 1, 1) := by decide +kernel
theorem dX8_layNow_88 : decode cX8_layNow 88 = .ok (.invokevirtual 201, 3) := by decide +kernel
theorem dX8_layNow_91 : decode cX8_layNow 91 = .ok (.iastore, 1) := by decide +kernel
theorem dX8_layNow_92 : decode cX8_layNow 92 = .ok (.iinc 1 1, 3) := by decide +kernel
theorem dX8_layNow_95 : decode cX8_layNow 95 = .ok (.goto (-25), 3) := by decide +kernel
theorem dX8_layNow_98 : decode cX8_layNow 98 = .ok (.return_, 1) := by decide +kernel
theorem dX8_layCounts_0 : decode cX8_layCounts 0 = .ok (.iconst 0, 1) := by decide +kernel
theorem dX8_layCounts_1 : decode cX8_layCounts 1 = .ok (.istore_n 1, 1) := by decide +kernel
theorem dX8_layCounts_2 : decode cX8_layCounts 2 = .ok (.iload_n 1, 1) := by decide +kernel
theorem dX8_layCounts_3 : decode cX8_layCounts 3 = .ok (.bipush 6, 2) := by decide +kernel
theorem dX8_layCounts_5 : decode cX8_layCounts 5 = .ok (.if_icmp .ge 23, 3) := by decide +kernel
theorem dX8_layCounts_8 : decode cX8_layCounts 8 = .ok (.aload_n 0, 1) := by decide +kernel
theorem dX8_layCounts_9 : decode cX8_layCounts 9 = .ok (.getfield 40, 3) := by decide +kernel
theorem dX8_layCounts_12 : decode cX8_layCounts 12 = .ok (.iload_n 1, 1) := by decide +kernel
theorem dX8_layCounts_13 : decode cX8_layCounts 13 = .ok (.iconst 0, 1) := by decide +kernel
theorem dX8_layCounts_14 : decode cX8_layCounts 14 = .ok (.iastore, 1) := by decide +kernel
theorem dX8_layCounts_15 : decode cX8_layCounts 15 = .ok (.aload_n 0, 1) := by decide +kernel
theorem dX8_layCounts_16 : decode cX8_layCounts 16 = .ok (.getfield 43, 3) := by decide +kernel
theorem dX8_layCounts_19 : decode cX8_layCounts 19 = .ok (.iload_n 1, 1) := by decide +kernel
theorem dX8_layCounts_20 : decode cX8_layCounts 20 = .ok (.iconst 0, 1) := by decide +kernel
theorem dX8_layCounts_21 : decode cX8_layCounts 21 = .ok (.iastore, 1) := by decide +kernel
theorem dX8_layCounts_22 : decode cX8_layCounts 22 = .ok (.iinc 1 1, 3) := by decide +kernel
theorem dX8_layCounts_25 : decode cX8_layCounts 25 = .ok (.goto (-23), 3) := by decide +kernel
theorem dX8_layCounts_28 : decode cX8_layCounts 28 = .ok (.aload_n 0, 1) := by decide +kernel
theorem dX8_layCounts_29 : decode cX8_layCounts 29 = .ok (.getfield 40, 3) := by decide +kernel
theorem dX8_layCounts_32 : decode cX8_layCounts 32 = .ok (.aload_n 0, 1) := by decide +kernel
theorem dX8_layCounts_33 : decode cX8_layCounts 33 = .ok (.getfield 198, 3) := by decide +kernel
theorem dX8_layCounts_36 : decode cX8_layCounts 36 = .ok (.aload_n 0, 1) := by decide +kernel
theorem dX8_layCounts_37 : decode cX8_layCounts 37 = .ok (.getfield 195, 3) := by decide +kernel
theorem dX8_layCounts_40 : decode cX8_layCounts 40 = .ok (.iastore, 1) := by decide +kernel
theorem dX8_layCounts_41 : decode cX8_layCounts 41 = .ok (.iconst 0, 1) := by decide +kernel
theorem dX8_layCounts_42 : decode cX8_layCounts 42 = .ok (.istore_n 1, 1) := by decide +kernel
theorem dX8_layCounts_43 : decode cX8_layCounts 43 = .ok (.iload_n 1, 1) := by decide +kernel
theorem dX8_layCounts_44 : decode cX8_layCounts 44 = .ok (.aload_n 0, 1) := by decide +kernel
theorem dX8_layCounts_45 : decode cX8_layCounts 45 = .ok (.getfield 19, 3) := by decide +kernel
theorem dX8_layCounts_48 : decode cX8_layCounts 48 = .ok (.iconst 2, 1) := by decide +kernel
theorem dX8_layCounts_49 : decode cX8_layCounts 49 = .ok (.iaload, 1) := by decide +kernel
theorem dX8_layCounts_50 : decode cX8_layCounts 50 = .ok (.if_icmp .ge 63, 3) := by decide +kernel
theorem dX8_layCounts_53 : decode cX8_layCounts 53 = .ok (.aload_n 0, 1) := by decide +kernel
theorem dX8_layCounts_54 : decode cX8_layCounts 54 = .ok (.getfield 40, 3) := by decide +kernel
theorem dX8_layCounts_57 : decode cX8_layCounts 57 = .ok (.aload_n 0, 1) := by decide +kernel
theorem dX8_layCounts_58 : decode cX8_layCounts 58 = .ok (.getfield 31, 3) := by decide +kernel
theorem dX8_layCounts_61 : decode cX8_layCounts 61 = .ok (.iload_n 1, 1) := by decide +kernel
theorem dX8_layCounts_62 : decode cX8_layCounts 62 = .ok (.iaload, 1) := by decide +kernel
theorem dX8_layCounts_63 : decode cX8_layCounts 63 = .ok (.dup2, 1) := by decide +kernel
theorem dX8_layCounts_64 : decode cX8_layCounts 64 = .ok (.iaload, 1) := by decide +kernel
theorem dX8_layCounts_65 : decode cX8_layCounts 65 = .ok (.aload_n 0, 1) := by decide +kernel
theorem dX8_layCounts_66 : decode cX8_layCounts 66 = .ok (.iload_n 1, 1) := by decide +kernel
theorem dX8_layCounts_67 : decode cX8_layCounts 67 = .ok (.iconst 2, 1) := by decide +kernel
theorem dX8_layCounts_68 : decode cX8_layCounts 68 = .ok (.invokevirtual 201, 3) := by decide +kernel
theorem dX8_layCounts_71 : decode cX8_layCounts 71 = .ok (.iadd, 1) := by decide +kernel
theorem dX8_layCounts_72 : decode cX8_layCounts 72 = .ok (.iastore, 1) := by decide +kernel
theorem dX8_layCounts_73 : decode cX8_layCounts 73 = .ok (.aload_n 0, 1) := by decide +kernel
theorem dX8_layCounts_74 : decode cX8_layCounts 74 = .ok (.getfield 43, 3) := by decide +kernel
theorem dX8_layCounts_77 : decode cX8_layCounts 77 = .ok (.aload_n 0, 1) := by decide +kernel
theorem dX8_layCounts_78 : decode cX8_layCounts 78 = .ok (.getfield 31, 3) := by decide +kernel
theorem dX8_layCounts_81 : decode cX8_layCounts 81 = .ok (.iload_n 1, 1) := by decide +kernel
theorem dX8_layCounts_82 : decode cX8_layCounts 82 = .ok (.iaload, 1) := by decide +kernel
theorem dX8_layCounts_83 : decode cX8_layCounts 83 = .ok (.dup2, 1) := by decide +kernel
theorem dX8_layCounts_84 : decode cX8_layCounts 84 = .ok (.iaload, 1) := by decide +kernel
theorem dX8_layCounts_85 : decode cX8_layCounts 85 = .ok (.aload_n 0, 1) := by decide +kernel
theorem dX8_layCounts_86 : decode cX8_layCounts 86 = .ok (.iload_n 1, 1) := by decide +kernel
theorem dX8_layCounts_87 : decode cX8_layCounts 87 = .ok (.iconst 0, 1) := by decide +kernel
theorem dX8_layCounts_88 : decode cX8_layCounts 88 = .ok (.invokevirtual 201, 3) := by decide +kernel
theorem dX8_layCounts_91 : decode cX8_layCounts 91 = .ok (.iconst 2, 1) := by decide +kernel
theorem dX8_layCounts_92 : decode cX8_layCounts 92 = .ok (.if_icmp .ne 12, 3) := by decide +kernel
theorem dX8_layCounts_95 : decode cX8_layCounts 95 = .ok (.aload_n 0, 1) := by decide +kernel
theorem dX8_layCounts_96 : decode cX8_layCounts 96 = .ok (.iload_n 1, 1) := by decide +kernel
theorem dX8_layCounts_97 : decode cX8_layCounts 97 = .ok (.iconst 2, 1) := by decide +kernel
theorem dX8_layCounts_98 : decode cX8_layCounts 98 = .ok (.invokevirtual 201, 3) := by decide +kernel
theorem dX8_layCounts_101 : decode cX8_layCounts 101 = .ok (.goto 4, 3) := by decide +kernel
theorem dX8_layCounts_104 : decode cX8_layCounts 104 = .ok (.iconst 0, 1) := by decide +kernel
theorem dX8_layCounts_105 : decode cX8_layCounts 105 = .ok (.iadd, 1) := by decide +kernel
theorem dX8_layCounts_106 : decode cX8_layCounts 106 = .ok (.iastore, 1) := by decide +kernel
theorem dX8_layCounts_107 : decode cX8_layCounts 107 = .ok (.iinc 1 1, 3) := by decide +kernel
theorem dX8_layCounts_110 : decode cX8_layCounts 110 = .ok (.goto (-67), 3) := by decide +kernel
theorem dX8_layCounts_113 : decode cX8_layCounts 113 = .ok (.return_, 1) := by decide +kernel
theorem dX8_draws_0 : decode cX8_draws 0 = .ok (.iload_n 1, 1) := by decide +kernel
theorem dX8_draws_1 : decode cX8_draws 1 = .ok (.tableswitch 69 2 5 #[31, 38, 69, 61], 31) := by decide +kernel
theorem dX8_draws_32 : decode cX8_draws 32 = .ok (.aload_n 0, 1) := by decide +kernel
theorem dX8_draws_33 : decode cX8_draws 33 = .ok (.getfield 43, 3) := by decide +kernel
theorem dX8_draws_36 : decode cX8_draws 36 = .ok (.iload_n 2, 1) := by decide +kernel
theorem dX8_draws_37 : decode cX8_draws 37 = .ok (.iaload, 1) := by decide +kernel
theorem dX8_draws_38 : decode cX8_draws 38 = .ok (.ireturn, 1) := by decide +kernel
theorem dX8_draws_39 : decode cX8_draws 39 = .ok (.aload_n 0, 1) := by decide +kernel
theorem dX8_draws_40 : decode cX8_draws 40 = .ok (.getfield 192, 3) := by decide +kernel
theorem dX8_draws_43 : decode cX8_draws 43 = .ok (.ifCond .ne 12, 3) := by decide +kernel
theorem dX8_draws_46 : decode cX8_draws 46 = .ok (.aload_n 0, 1) := by decide +kernel
theorem dX8_draws_47 : decode cX8_draws 47 = .ok (.getfield 40, 3) := by decide +kernel
theorem dX8_draws_50 : decode cX8_draws 50 = .ok (.iload_n 2, 1) := by decide +kernel
theorem dX8_draws_51 : decode cX8_draws 51 = .ok (.iaload, 1) := by decide +kernel
theorem dX8_draws_52 : decode cX8_draws 52 = .ok (.goto 9, 3) := by decide +kernel
theorem dX8_draws_55 : decode cX8_draws 55 = .ok (.aload_n 0, 1) := by decide +kernel
theorem dX8_draws_56 : decode cX8_draws 56 = .ok (.getfield 46, 3) := by decide +kernel
theorem dX8_draws_59 : decode cX8_draws 59 = .ok (.iload_n 2, 1) := by decide +kernel
theorem dX8_draws_60 : decode cX8_draws 60 = .ok (.iaload, 1) := by decide +kernel
theorem dX8_draws_61 : decode cX8_draws 61 = .ok (.ireturn, 1) := by decide +kernel
theorem dX8_draws_62 : decode cX8_draws 62 = .ok (.aload_n 0, 1) := by decide +kernel
theorem dX8_draws_63 : decode cX8_draws 63 = .ok (.getfield 40, 3) := by decide +kernel
theorem dX8_draws_66 : decode cX8_draws 66 = .ok (.iload_n 2, 1) := by decide +kernel
theorem dX8_draws_67 : decode cX8_draws 67 = .ok (.iaload, 1) := by decide +kernel
theorem dX8_draws_68 : decode cX8_draws 68 = .ok (.ineg, 1) := by decide +kernel
theorem dX8_draws_69 : decode cX8_draws 69 = .ok (.ireturn, 1) := by decide +kernel
theorem dX8_draws_70 : decode cX8_draws 70 = .ok (.aload_n 0, 1) := by decide +kernel
theorem dX8_draws_71 : decode cX8_draws 71 = .ok (.getfield 40, 3) := by decide +kernel
theorem dX8_draws_74 : decode cX8_draws 74 = .ok (.iload_n 2, 1) := by decide +kernel
theorem dX8_draws_75 : decode cX8_draws 75 = .ok (.iaload, 1) := by decide +kernel
theorem dX8_draws_76 : decode cX8_draws 76 = .ok (.ireturn, 1) := by decide +kernel
theorem dX8_goesTo_0 : decode cX8_goesTo 0 = .ok (.aload_n 0, 1) := by decide +kernel
theorem dX8_goesTo_1 : decode cX8_goesTo 1 = .ok (.iload_n 1, 1) := by decide +kernel
theorem dX8_goesTo_2 : decode cX8_goesTo 2 = .ok (.iconst 0, 1) := by decide +kernel
theorem dX8_goesTo_3 : decode cX8_goesTo 3 = .ok (.invokevirtual 201, 3) := by decide +kernel
theorem dX8_goesTo_6 : decode cX8_goesTo 6 = .ok (.istore_n 2, 1) := by decide +kernel
theorem dX8_goesTo_7 : decode cX8_goesTo 7 = .ok (.aload_n 0, 1) := by decide +kernel
theorem dX8_goesTo_8 : decode cX8_goesTo 8 = .ok (.getfield 31, 3) := by decide +kernel
theorem dX8_goesTo_11 : decode cX8_goesTo 11 = .ok (.iload_n 1, 1) := by decide +kernel
theorem dX8_goesTo_12 : decode cX8_goesTo 12 = .ok (.iaload, 1) := by decide +kernel
theorem dX8_goesTo_13 : decode cX8_goesTo 13 = .ok (.istore_n 3, 1) := by decide +kernel
theorem dX8_goesTo_14 : decode cX8_goesTo 14 = .ok (.iload_n 2, 1) := by decide +kernel
theorem dX8_goesTo_15 : decode cX8_goesTo 15 = .ok (.iconst 4, 1) := by decide +kernel
theorem dX8_goesTo_16 : decode cX8_goesTo 16 = .ok (.if_icmp .ne 5, 3) := by decide +kernel
theorem dX8_goesTo_19 : decode cX8_goesTo 19 = .ok (.iload_n 3, 1) := by decide +kernel
theorem dX8_goesTo_20 : decode cX8_goesTo 20 = .ok (.ireturn, 1) := by decide +kernel
theorem dX8_goesTo_21 : decode cX8_goesTo 21 = .ok (.iload_n 3, 1) := by decide +kernel
theorem dX8_goesTo_22 : decode cX8_goesTo 22 = .ok (.istore 4, 2) := by decide +kernel
theorem dX8_goesTo_24 : decode cX8_goesTo 24 = .ok (.aload_n 0, 1) := by decide +kernel
theorem dX8_goesTo_25 : decode cX8_goesTo 25 = .ok (.iload_n 2, 1) := by decide +kernel
theorem dX8_goesTo_26 : decode cX8_goesTo 26 = .ok (.iload_n 3, 1) := by decide +kernel
theorem dX8_goesTo_27 : decode cX8_goesTo 27 = .ok (.invokevirtual 204, 3) := by decide +kernel
theorem dX8_goesTo_30 : decode cX8_goesTo 30 = .ok (.istore 5, 2) := by decide +kernel
theorem dX8_goesTo_32 : decode cX8_goesTo 32 = .ok (.iconst 0, 1) := by decide +kernel
theorem dX8_goesTo_33 : decode cX8_goesTo 33 = .ok (.istore 6, 2) := by decide +kernel
theorem dX8_goesTo_35 : decode cX8_goesTo 35 = .ok (.iload 6, 2) := by decide +kernel
theorem dX8_goesTo_37 : decode cX8_goesTo 37 = .ok (.aload_n 0, 1) := by decide +kernel
theorem dX8_goesTo_38 : decode cX8_goesTo 38 = .ok (.getfield 19, 3) := by decide +kernel
theorem dX8_goesTo_41 : decode cX8_goesTo 41 = .ok (.iconst 0, 1) := by decide +kernel
theorem dX8_goesTo_42 : decode cX8_goesTo 42 = .ok (.iaload, 1) := by decide +kernel
theorem dX8_goesTo_43 : decode cX8_goesTo 43 = .ok (.if_icmp .ge 49, 3) := by decide +kernel
theorem dX8_goesTo_46 : decode cX8_goesTo 46 = .ok (.aload_n 0, 1) := by decide +kernel
theorem dX8_goesTo_47 : decode cX8_goesTo 47 = .ok (.getfield 37, 3) := by decide +kernel
theorem dX8_goesTo_50 : decode cX8_goesTo 50 = .ok (.iload_n 3, 1) := by decide +kernel
theorem dX8_goesTo_51 : decode cX8_goesTo 51 = .ok (.iaload, 1) := by decide +kernel
theorem dX8_goesTo_52 : decode cX8_goesTo 52 = .ok (.iload 6, 2) := by decide +kernel
theorem dX8_goesTo_54 : decode cX8_goesTo 54 = .ok (.ishr, 1) := by decide +kernel
theorem dX8_goesTo_55 : decode cX8_goesTo 55 = .ok (.iconst 1, 1) := by decide +kernel
theorem dX8_goesTo_56 : decode cX8_goesTo 56 = .ok (.iand, 1) := by decide +kernel
theorem dX8_goesTo_57 : decode cX8_goesTo 57 = .ok (.iconst 1, 1) := by decide +kernel
theorem dX8_goesTo_58 : decode cX8_goesTo 58 = .ok (.if_icmp .ne 28, 3) := by decide +kernel
theorem dX8_goesTo_61 : decode cX8_goesTo 61 = .ok (.aload_n 0, 1) := by decide +kernel
theorem dX8_goesTo_62 : decode cX8_goesTo 62 = .ok (.iload_n 2, 1) := by decide +kernel
theorem dX8_goesTo_63 : decode cX8_goesTo 63 = .ok (.iload 6, 2) := by decide +kernel
theorem dX8_goesTo_65 : decode cX8_goesTo 65 = .ok (.invokevirtual 204, 3) := by decide +kernel
theorem dX8_goesTo_68 : decode cX8_goesTo 68 = .ok (.iload 5, 2) := by decide +kernel
theorem dX8_goesTo_70 : decode cX8_goesTo 70 = .ok (.if_icmp .le 16, 3) := by decide +kernel
theorem dX8_goesTo_73 : decode cX8_goesTo 73 = .ok (.aload_n 0, 1) := by decide +kernel
theorem dX8_goesTo_74 : decode cX8_goesTo 74 = .ok (.iload_n 2, 1) := by decide +kernel
theorem dX8_goesTo_75 : decode cX8_goesTo 75 = .ok (.iload 6, 2) := by decide +kernel
theorem dX8_goesTo_77 : decode cX8_goesTo 77 = .ok (.invokevirtual 204, 3) := by decide +kernel
theorem dX8_goesTo_80 : decode cX8_goesTo 80 = .ok (.istore 5, 2) := by decide +kernel
theorem dX8_goesTo_82 : decode cX8_goesTo 82 = .ok (.iload 6, 2) := by decide +kernel
theorem dX8_goesTo_84 : decode cX8_goesTo 84 = .ok (.istore 4, 2) := by decide +kernel
theorem dX8_goesTo_86 : decode cX8_goesTo 86 = .ok (.iinc 6 1, 3) := by decide +kernel
theorem dX8_goesTo_89 : decode cX8_goesTo 89 = .ok (.goto (-54), 3) := by decide +kernel
theorem dX8_goesTo_92 : decode cX8_goesTo 92 = .ok (.iload 4, 2) := by decide +kernel
theorem dX8_goesTo_94 : decode cX8_goesTo 94 = .ok (.ireturn, 1) := by decide +kernel
theorem dX8_goBell_0 : decode cX8_goBell 0 = .ok (.aload_n 0, 1) := by decide +kernel
theorem dX8_goBell_1 : decode cX8_goBell 1 = .ok (.invokevirtual 207, 3) := by decide +kernel
theorem dX8_goBell_4 : decode cX8_goBell 4 = .ok (.iconst 0, 1) := by decide +kernel
theorem dX8_goBell_5 : decode cX8_goBell 5 = .ok (.istore_n 1, 1) := by decide +kernel
theorem dX8_goBell_6 : decode cX8_goBell 6 = .ok (.iconst 0, 1) := by decide +kernel
theorem dX8_goBell_7 : decode cX8_goBell 7 = .ok (.istore_n 2, 1) := by decide +kernel
theorem dX8_goBell_8 : decode cX8_goBell 8 = .ok (.iload_n 2, 1) := by decide +kernel
theorem dX8_goBell_9 : decode cX8_goBell 9 = .ok (.aload_n 0, 1) := by decide +kernel
theorem dX8_goBell_10 : decode cX8_goBell 10 = .ok (.getfield 19, 3) := by decide +kernel
theorem dX8_goBell_13 : decode cX8_goBell 13 = .ok (.iconst 2, 1) := by decide +kernel
theorem dX8_goBell_14 : decode cX8_goBell 14 = .ok (.iaload, 1) := by decide +kernel
theorem dX8_goBell_15 : decode cX8_goBell 15 = .ok (.if_icmp .ge 20, 3) := by decide +kernel
theorem dX8_goBell_18 : decode cX8_goBell 18 = .ok (.aload_n 0, 1) := by decide +kernel
theorem dX8_goBell_19 : decode cX8_goBell 19 = .ok (.getfield 34, 3) := by decide +kernel
theorem dX8_goBell_22 : decode cX8_goBell 22 = .ok (.iload_n 2, 1) := by decide +kernel
theorem dX8_goBell_23 : decode cX8_goBell 23 = .ok (.aload_n 0, 1) := by decide +kernel
theorem dX8_goBell_24 : decode cX8_goBell 24 = .ok (.iload_n 2, 1) := by decide +kernel
theorem dX8_goBell_25 : decode cX8_goBell 25 = .ok (.invokevirtual 210, 3) := by decide +kernel
theorem dX8_goBell_28 : decode cX8_goBell 28 = .ok (.iastore, 1) := by decide +kernel
theorem dX8_goBell_29 : decode cX8_goBell 29 = .ok (.iinc 2 1, 3) := by decide +kernel
theorem dX8_goBell_32 : decode cX8_goBell 32 = .ok (.goto (-24), 3) := by decide +kernel
theorem dX8_goBell_35 : decode cX8_goBell 35 = .ok (.iconst 0, 1) := by decide +kernel
theorem dX8_goBell_36 : decode cX8_goBell 36 = .ok (.istore_n 2, 1) := by decide +kernel
theorem dX8_goBell_37 : decode cX8_goBell 37 = .ok (.iload_n 2, 1) := by decide +kernel
theorem dX8_goBell_38 : decode cX8_goBell 38 = .ok (.aload_n 0, 1) := by decide +kernel
theorem dX8_goBell_39 : decode cX8_goBell 39 = .ok (.getfield 19, 3) := by decide +kernel
theorem dX8_goBell_42 : decode cX8_goBell 42 = .ok (.iconst 2, 1) := by decide +kernel
theorem dX8_goBell_43 : decode cX8_goBell 43 = .ok (.iaload, 1) := by decide +kernel
theorem dX8_goBell_44 : decode cX8_goBell 44 = .ok (.if_icmp .ge 46, 3) := by decide +kernel
theorem dX8_goBell_47 : decode cX8_goBell 47 = .ok (.iload_n 1, 1) := by decide +kernel
theorem dX8_goBell_48 : decode cX8_goBell 48 = .ok (.aload_n 0, 1) := by decide +kernel
theorem dX8_goBell_49 : decode cX8_goBell 49 = .ok (.getfield 34, 3) := by decide +kernel
theorem dX8_goBell_52 : decode cX8_goBell 52 = .ok (.iload_n 2, 1) := by decide +kernel
theorem dX8_goBell_53 : decode cX8_goBell 53 = .ok (.iaload, 1) := by decide +kernel
theorem dX8_goBell_54 : decode cX8_goBell 54 = .ok (.aload_n 0, 1) := by decide +kernel
theorem dX8_goBell_55 : decode cX8_goBell 55 = .ok (.getfield 31, 3) := by decide +kernel
theorem dX8_goBell_58 : decode cX8_goBell 58 = .ok (.iload_n 2, 1) := by decide +kernel
theorem dX8_goBell_59 : decode cX8_goBell 59 = .ok (.iaload, 1) := by decide +kernel
theorem dX8_goBell_60 : decode cX8_goBell 60 = .ok (.if_icmp .eq 9, 3) := by decide +kernel
theorem dX8_goBell_63 : decode cX8_goBell 63 = .ok (.iconst 1, 1) := by decide +kernel
theorem dX8_goBell_64 : decode cX8_goBell 64 = .ok (.iload_n 2, 1) := by decide +kernel
theorem dX8_goBell_65 : decode cX8_goBell 65 = .ok (.ishl, 1) := by decide +kernel
theorem dX8_goBell_66 : decode cX8_goBell 66 = .ok (.goto 4, 3) := by decide +kernel
theorem dX8_goBell_69 : decode cX8_goBell 69 = .ok (.iconst 0, 1) := by decide +kernel
theorem dX8_goBell_70 : decode cX8_goBell 70 = .ok (.ior, 1) := by decide +kernel
theorem dX8_goBell_71 : decode cX8_goBell 71 = .ok (.istore_n 1, 1) := by decide +kernel
theorem dX8_goBell_72 : decode cX8_goBell 72 = .ok (.aload_n 0, 1) := by decide +kernel
theorem dX8_goBell_73 : decode cX8_goBell 73 = .ok (.getfield 31, 3) := by decide +kernel
theorem dX8_goBell_76 : decode cX8_goBell 76 = .ok (.iload_n 2, 1) := by decide +kernel
theorem dX8_goBell_77 : decode cX8_goBell 77 = .ok (.aload_n 0, 1) := by decide +kernel
theorem dX8_goBell_78 : decode cX8_goBell 78 = .ok (.getfield 34, 3) := by decide +kernel
theorem dX8_goBell_81 : decode cX8_goBell 81 = .ok (.iload_n 2, 1) := by decide +kernel
theorem dX8_goBell_82 : decode cX8_goBell 82 = .ok (.iaload, 1) := by decide +kernel
theorem dX8_goBell_83 : decode cX8_goBell 83 = .ok (.iastore, 1) := by decide +kernel
theorem dX8_goBell_84 : decode cX8_goBell 84 = .ok (.iinc 2 1, 3) := by decide +kernel
theorem dX8_goBell_87 : decode cX8_goBell 87 = .ok (.goto (-50), 3) := by decide +kernel
theorem dX8_goBell_90 : decode cX8_goBell 90 = .ok (.iconst 0, 1) := by decide +kernel
theorem dX8_goBell_91 : decode cX8_goBell 91 = .ok (.istore_n 2, 1) := by decide +kernel
theorem dX8_goBell_92 : decode cX8_goBell 92 = .ok (.iload_n 2, 1) := by decide +kernel
theorem dX8_goBell_93 : decode cX8_goBell 93 = .ok (.bipush 6, 2) := by decide +kernel
theorem dX8_goBell_95 : decode cX8_goBell 95 = .ok (.if_icmp .ge 21, 3) := by decide +kernel
theorem dX8_goBell_98 : decode cX8_goBell 98 = .ok (.aload_n 0, 1) := by decide +kernel
theorem dX8_goBell_99 : decode cX8_goBell 99 = .ok (.getfield 46, 3) := by decide +kernel
theorem dX8_goBell_102 : decode cX8_goBell 102 = .ok (.iload_n 2, 1) := by decide +kernel
theorem dX8_goBell_103 : decode cX8_goBell 103 = .ok (.aload_n 0, 1) := by decide +kernel
theorem dX8_goBell_104 : decode cX8_goBell 104 = .ok (.getfield 40, 3) := by decide +kernel
theorem dX8_goBell_107 : decode cX8_goBell 107 = .ok (.iload_n 2, 1) := by decide +kernel
theorem dX8_goBell_108 : decode cX8_goBell 108 = .ok (.iaload, 1) := by decide +kernel
theorem dX8_goBell_109 : decode cX8_goBell 109 = .ok (.iastore, 1) := by decide +kernel
theorem dX8_goBell_110 : decode cX8_goBell 110 = .ok (.iinc 2 1, 3) := by decide +kernel
theorem dX8_goBell_113 : decode cX8_goBell 113 = .ok (.goto (-21), 3) := by decide +kernel
