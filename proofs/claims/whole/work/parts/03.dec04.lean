/-! decode rows: X3 -/
theorem dX3_init_0 : decode cX3_init 0 = .ok (.aload_n 0, 1) := by decide +kernel
theorem dX3_init_1 : decode cX3_init 1 = .ok (.invokespecial 3, 3) := by decide +kernel
theorem dX3_init_4 : decode cX3_init 4 = .ok (.aload_n 0, 1) := by decide +kernel
theorem dX3_init_5 : decode cX3_init 5 = .ok (.bipush 6, 2) := by decide +kernel
theorem dX3_init_7 : decode cX3_init 7 = .ok (.newarray .int, 2) := by decide +kernel
theorem dX3_init_9 : decode cX3_init 9 = .ok (.putfield 9, 3) := by decide +kernel
theorem dX3_init_12 : decode cX3_init 12 = .ok (.aload_n 0, 1) := by decide +kernel
theorem dX3_init_13 : decode cX3_init 13 = .ok (.bipush 6, 2) := by decide +kernel
theorem dX3_init_15 : decode cX3_init 15 = .ok (.newarray .int, 2) := by decide +kernel
theorem dX3_init_17 : decode cX3_init 17 = .ok (.putfield 15, 3) := by decide +kernel
theorem dX3_init_20 : decode cX3_init 20 = .ok (.aload_n 0, 1) := by decide +kernel
theorem dX3_init_21 : decode cX3_init 21 = .ok (.bipush 6, 2) := by decide +kernel
theorem dX3_init_23 : decode cX3_init 23 = .ok (.newarray .int, 2) := by decide +kernel
theorem dX3_init_25 : decode cX3_init 25 = .ok (.putfield 18, 3) := by decide +kernel
theorem dX3_init_28 : decode cX3_init 28 = .ok (.aload_n 0, 1) := by decide +kernel
theorem dX3_init_29 : decode cX3_init 29 = .ok (.iconst 5, 1) := by decide +kernel
theorem dX3_init_30 : decode cX3_init 30 = .ok (.newarray .int, 2) := by decide +kernel
theorem dX3_init_32 : decode cX3_init 32 = .ok (.putfield 21, 3) := by decide +kernel
theorem dX3_init_35 : decode cX3_init 35 = .ok (.aload_n 0, 1) := by decide +kernel
theorem dX3_init_36 : decode cX3_init 36 = .ok (.iconst 5, 1) := by decide +kernel
theorem dX3_init_37 : decode cX3_init 37 = .ok (.newarray .int, 2) := by decide +kernel
theorem dX3_init_39 : decode cX3_init 39 = .ok (.putfield 24, 3) := by decide +kernel
theorem dX3_init_42 : decode cX3_init 42 = .ok (.aload_n 0, 1) := by decide +kernel
theorem dX3_init_43 : decode cX3_init 43 = .ok (.iconst 5, 1) := by decide +kernel
theorem dX3_init_44 : decode cX3_init 44 = .ok (.newarray .int, 2) := by decide +kernel
theorem dX3_init_46 : decode cX3_init 46 = .ok (.putfield 27, 3) := by decide +kernel
theorem dX3_init_49 : decode cX3_init 49 = .ok (.aload_n 0, 1) := by decide +kernel
theorem dX3_init_50 : decode cX3_init 50 = .ok (.bipush 6, 2) := by decide +kernel
theorem dX3_init_52 : decode cX3_init 52 = .ok (.newarray .int, 2) := by decide +kernel
theorem dX3_init_54 : decode cX3_init 54 = .ok (.putfield 30, 3) := by decide +kernel
theorem dX3_init_57 : decode cX3_init 57 = .ok (.aload_n 0, 1) := by decide +kernel
theorem dX3_init_58 : decode cX3_init 58 = .ok (.bipush 6, 2) := by decide +kernel
theorem dX3_init_60 : decode cX3_init 60 = .ok (.newarray .int, 2) := by decide +kernel
theorem dX3_init_62 : decode cX3_init 62 = .ok (.putfield 33, 3) := by decide +kernel
theorem dX3_init_65 : decode cX3_init 65 = .ok (.aload_n 0, 1) := by decide +kernel
theorem dX3_init_66 : decode cX3_init 66 = .ok (.iconst 5, 1) := by decide +kernel
theorem dX3_init_67 : decode cX3_init 67 = .ok (.newarray .int, 2) := by decide +kernel
theorem dX3_init_69 : decode cX3_init 69 = .ok (.putfield 36, 3) := by decide +kernel
theorem dX3_init_72 : decode cX3_init 72 = .ok (.return_, 1) := by decide +kernel
theorem dX3_clear_0 : decode cX3_clear 0 = .ok (.aload_n 0, 1) := by decide +kernel
theorem dX3_clear_1 : decode cX3_clear 1 = .ok (.iconst 0, 1) := by decide +kernel
theorem dX3_clear_2 : decode cX3_clear 2 = .ok (.putfield 39, 3) := by decide +kernel
theorem dX3_clear_5 : decode cX3_clear 5 = .ok (.aload_n 0, 1) := by decide +kernel
theorem dX3_clear_6 : decode cX3_clear 6 = .ok (.iconst 0, 1) := by decide +kernel
theorem dX3_clear_7 : decode cX3_clear 7 = .ok (.putfield 43, 3) := by decide +kernel
theorem dX3_clear_10 : decode cX3_clear 10 = .ok (.iconst 0, 1) := by decide +kernel
theorem dX3_clear_11 : decode cX3_clear 11 = .ok (.istore_n 1, 1) := by decide +kernel
theorem dX3_clear_12 : decode cX3_clear 12 = .ok (.iload_n 1, 1) := by decide +kernel
theorem dX3_clear_13 : decode cX3_clear 13 = .ok (.bipush 6, 2) := by decide +kernel
theorem dX3_clear_15 : decode cX3_clear 15 = .ok (.if_icmp .ge 16, 3) := by decide +kernel
theorem dX3_clear_18 : decode cX3_clear 18 = .ok (.aload_n 0, 1) := by decide +kernel
theorem dX3_clear_19 : decode cX3_clear 19 = .ok (.getfield 15, 3) := by decide +kernel
theorem dX3_clear_22 : decode cX3_clear 22 = .ok (.iload_n 1, 1) := by decide +kernel
theorem dX3_clear_23 : decode cX3_clear 23 = .ok (.iconst 0, 1) := by decide +kernel
theorem dX3_clear_24 : decode cX3_clear 24 = .ok (.iastore, 1) := by decide +kernel
theorem dX3_clear_25 : decode cX3_clear 25 = .ok (.iinc 1 1, 3) := by decide +kernel
theorem dX3_clear_28 : decode cX3_clear 28 = .ok (.goto (-16), 3) := by decide +kernel
theorem dX3_clear_31 : decode cX3_clear 31 = .ok (.return_, 1) := by decide +kernel
theorem dX3_take_0 : decode cX3_take 0 = .ok (.aload_n 0, 1) := by decide +kernel
theorem dX3_take_1 : decode cX3_take 1 = .ok (.aload_n 1, 1) := by decide +kernel
theorem dX3_take_2 : decode cX3_take 2 = .ok (.getfield 39, 3) := by decide +kernel
theorem dX3_take_5 : decode cX3_take 5 = .ok (.putfield 39, 3) := by decide +kernel
theorem dX3_take_8 : decode cX3_take 8 = .ok (.aload_n 0, 1) := by decide +kernel
theorem dX3_take_9 : decode cX3_take 9 = .ok (.aload_n 1, 1) := by decide +kernel
theorem dX3_take_10 : decode cX3_take 10 = .ok (.getfield 43, 3) := by decide +kernel
theorem dX3_take_13 : decode cX3_take 13 = .ok (.putfield 43, 3) := by decide +kernel
theorem dX3_take_16 : decode cX3_take 16 = .ok (.aload_n 0, 1) := by decide +kernel
theorem dX3_take_17 : decode cX3_take 17 = .ok (.aload_n 1, 1) := by decide +kernel
theorem dX3_take_18 : decode cX3_take 18 = .ok (.getfield 46, 3) := by decide +kernel
theorem dX3_take_21 : decode cX3_take 21 = .ok (.putfield 46, 3) := by decide +kernel
theorem dX3_take_24 : decode cX3_take 24 = .ok (.aload_n 0, 1) := by decide +kernel
theorem dX3_take_25 : decode cX3_take 25 = .ok (.iconst 0, 1) := by decide +kernel
theorem dX3_take_26 : decode cX3_take 26 = .ok (.putfield 49, 3) := by decide +kernel
theorem dX3_take_29 : decode cX3_take 29 = .ok (.aload_n 1, 1) := by decide +kernel
theorem dX3_take_30 : decode cX3_take 30 = .ok (.getfield 9, 3) := by decide +kernel
theorem dX3_take_33 : decode cX3_take 33 = .ok (.iconst 0, 1) := by decide +kernel
theorem dX3_take_34 : decode cX3_take 34 = .ok (.aload_n 0, 1) := by decide +kernel
theorem dX3_take_35 : decode cX3_take 35 = .ok (.getfield 9, 3) := by decide +kernel
theorem dX3_take_38 : decode cX3_take 38 = .ok (.iconst 0, 1) := by decide +kernel
theorem dX3_take_39 : decode cX3_take 39 = .ok (.bipush 6, 2) := by decide +kernel
theorem dX3_take_41 : decode cX3_take 41 = .ok (.invokestatic 52, 3) := by decide +kernel
theorem dX3_take_44 : decode cX3_take 44 = .ok (.aload_n 1, 1) := by decide +kernel
theorem dX3_take_45 : decode cX3_take 45 = .ok (.getfield 15, 3) := by decide +kernel
theorem dX3_take_48 : decode cX3_take 48 = .ok (.iconst 0, 1) := by decide +kernel
theorem dX3_take_49 : decode cX3_take 49 = .ok (.aload_n 0, 1) := by decide +kernel
theorem dX3_take_50 : decode cX3_take 50 = .ok (.getfield 15, 3) := by decide +kernel
theorem dX3_take_53 : decode cX3_take 53 = .ok (.iconst 0, 1) := by decide +kernel
theorem dX3_take_54 : decode cX3_take 54 = .ok (.bipush 6, 2) := by decide +kernel
theorem dX3_take_56 : decode cX3_take 56 = .ok (.invokestatic 52, 3) := by decide +kernel
theorem dX3_take_59 : decode cX3_take 59 = .ok (.aload_n 1, 1) := by decide +kernel
theorem dX3_take_60 : decode cX3_take 60 = .ok (.getfield 18, 3) := by decide +kernel
theorem dX3_take_63 : decode cX3_take 63 = .ok (.iconst 0, 1) := by decide +kernel
theorem dX3_take_64 : decode cX3_take 64 = .ok (.aload_n 0, 1) := by decide +kernel
theorem dX3_take_65 : decode cX3_take 65 = .ok (.getfield 18, 3) := by decide +kernel
theorem dX3_take_68 : decode cX3_take 68 = .ok (.iconst 0, 1) := by decide +kernel
theorem dX3_take_69 : decode cX3_take 69 = .ok (.bipush 6, 2) := by decide +kernel
theorem dX3_take_71 : decode cX3_take 71 = .ok (.invokestatic 52, 3) := by decide +kernel
theorem dX3_take_74 : decode cX3_take 74 = .ok (.aload_n 1, 1) := by decide +kernel
theorem dX3_take_75 : decode cX3_take 75 = .ok (.getfield 21, 3) := by decide +kernel
theorem dX3_take_78 : decode cX3_take 78 = .ok (.iconst 0, 1) := by decide +kernel
theorem dX3_take_79 : decode cX3_take 79 = .ok (.aload_n 0, 1) := by decide +kernel
theorem dX3_take_80 : decode cX3_take 80 = .ok (.getfield 21, 3) := by decide +kernel
theorem dX3_take_83 : decode cX3_take 83 = .ok (.iconst 0, 1) := by decide +kernel
theorem dX3_take_84 : decode cX3_take 84 = .ok (.iconst 5, 1) := by decide +kernel
theorem dX3_take_85 : decode cX3_take 85 = .ok (.invokestatic 52, 3) := by decide +kernel
theorem dX3_take_88 : decode cX3_take 88 = .ok (.aload_n 1, 1) := by decide +kernel
theorem dX3_take_89 : decode cX3_take 89 = .ok (.getfield 24, 3) := by decide +kernel
theorem dX3_take_92 : decode cX3_take 92 = .ok (.iconst 0, 1) := by decide +kernel
theorem dX3_take_93 : decode cX3_take 93 = .ok (.aload_n 0, 1) := by decide +kernel
theorem dX3_take_94 : decode cX3_take 94 = .ok (.getfield 24, 3) := by decide +kernel
theorem dX3_take_97 : decode cX3_take 97 = .ok (.iconst 0, 1) := by decide +kernel
theorem dX3_take_98 : decode cX3_take 98 = .ok (.iconst 5, 1) := by decide +kernel
theorem dX3_take_99 : decode cX3_take 99 = .ok (.invokestatic 52, 3) := by decide +kernel
theorem dX3_take_102 : decode cX3_take 102 = .ok (.aload_n 1, 1) := by decide +kernel
theorem dX3_take_103 : decode cX3_take 103 = .ok (.getfield 27, 3) := by decide +kernel
theorem dX3_take_106 : decode cX3_take 106 = .ok (.iconst 0, 1) := by decide +kernel
theorem dX3_take_107 : decode cX3_take 107 = .ok (.aload_n 0, 1) := by decide +kernel
theorem dX3_take_108 : decode cX3_take 108 = .ok (.getfield 27, 3) := by decide +kernel
theorem dX3_take_111 : decode cX3_take 111 = .ok (.iconst 0, 1) := by decide +kernel
theorem dX3_take_112 : decode cX3_take 112 = .ok (.iconst 5, 1) := by decide +kernel
theorem dX3_take_113 : decode cX3_take 113 = .ok (.invokestatic 52, 3) := by decide +kernel
theorem dX3_take_116 : decode cX3_take 116 = .ok (.return_, 1) := by decide +kernel
theorem dX3_isRoom_0 : decode cX3_isRoom 0 = .ok (.iload_n 1, 1) := by decide +kernel
theorem dX3_isRoom_1 : decode cX3_isRoom 1 = .ok (.ifCond .lt 15, 3) := by decide +kernel
theorem dX3_isRoom_4 : decode cX3_isRoom 4 = .ok (.iload_n 1, 1) := by decide +kernel
theorem dX3_isRoom_5 : decode cX3_isRoom 5 = .ok (.aload_n 0, 1) := by decide +kernel
theorem dX3_isRoom_6 : decode cX3_isRoom 6 = .ok (.getfield 39, 3) := by decide +kernel
theorem dX3_isRoom_9 : decode cX3_isRoom 9 = .ok (.if_icmp .ge 7, 3) := by decide +kernel
theorem dX3_isRoom_12 : decode cX3_isRoom 12 = .ok (.iconst 1, 1) := by decide +kernel
theorem dX3_isRoom_13 : decode cX3_isRoom 13 = .ok (.goto 4, 3) := by decide +kernel
theorem dX3_isRoom_16 : decode cX3_isRoom 16 = .ok (.iconst 0, 1) := by decide +kernel
theorem dX3_isRoom_17 : decode cX3_isRoom 17 = .ok (.ireturn, 1) := by decide +kernel
theorem dX3_isCrowd_0 : decode cX3_isCrowd 0 = .ok (.iload_n 1, 1) := by decide +kernel
theorem dX3_isCrowd_1 : decode cX3_isCrowd 1 = .ok (.ifCond .lt 15, 3) := by decide +kernel
theorem dX3_isCrowd_4 : decode cX3_isCrowd 4 = .ok (.iload_n 1, 1) := by decide +kernel
theorem dX3_isCrowd_5 : decode cX3_isCrowd 5 = .ok (.aload_n 0, 1) := by decide +kernel
theorem dX3_isCrowd_6 : decode cX3_isCrowd 6 = .ok (.getfield 43, 3) := by decide +kernel
theorem dX3_isCrowd_9 : decode cX3_isCrowd 9 = .ok (.if_icmp .ge 7, 3) := by decide +kernel
theorem dX3_isCrowd_12 : decode cX3_isCrowd 12 = .ok (.iconst 1, 1) := by decide +kernel
theorem dX3_isCrowd_13 : decode cX3_isCrowd 13 = .ok (.goto 4, 3) := by decide +kernel
theorem dX3_isCrowd_16 : decode cX3_isCrowd 16 = .ok (.iconst 0, 1) := by decide +kernel
theorem dX3_isCrowd_17 : decode cX3_isCrowd 17 = .ok (.ireturn, 1) := by decide +kernel
theorem dX3_doorBetween_0 : decode cX3_doorBetween 0 = .ok (.aload_n 0, 1) := by decide +kernel
theorem dX3_doorBetween_1 : decode cX3_doorBetween 1 = .ok (.getfield 15, 3) := by decide +kernel
theorem dX3_doorBetween_4 : decode cX3_doorBetween 4 = .ok (.iload_n 1, 1) := by decide +kernel
theorem dX3_doorBetween_5 : decode cX3_doorBetween 5 = .ok (.iaload, 1) := by decide +kernel
theorem dX3_doorBetween_6 : decode cX3_doorBetween 6 = .ok (.iload_n 2, 1) := by decide +kernel
theorem dX3_doorBetween_7 : decode cX3_doorBetween 7 = .ok (.ishr, 1) := by decide +kernel
theorem dX3_doorBetween_8 : decode cX3_doorBetween 8 = .ok (.iconst 1, 1) := by decide +kernel
theorem dX3_doorBetween_9 : decode cX3_doorBetween 9 = .ok (.iand, 1) := by decide +kernel
theorem dX3_doorBetween_10 : decode cX3_doorBetween 10 = .ok (.ireturn, 1) := by decide +kernel
theorem dX3_putDoor_0 : decode cX3_putDoor 0 = .ok (.aload_n 0, 1) := by decide +kernel
theorem dX3_putDoor_1 : decode cX3_putDoor 1 = .ok (.getfield 15, 3) := by decide +kernel
theorem dX3_putDoor_4 : decode cX3_putDoor 4 = .ok (.iload_n 1, 1) := by decide +kernel
theorem dX3_putDoor_5 : decode cX3_putDoor 5 = .ok (.aload_n 0, 1) := by decide +kernel
theorem dX3_putDoor_6 : decode cX3_putDoor 6 = .ok (.getfield 15, 3) := by decide +kernel
theorem dX3_putDoor_9 : decode cX3_putDoor 9 = .ok (.iload_n 1, 1) := by decide +kernel
theorem dX3_putDoor_10 : decode cX3_putDoor 10 = .ok (.iaload, 1) := by decide +kernel
theorem dX3_putDoor_11 : decode cX3_putDoor 11 = .ok (.iconst 1, 1) := by decide +kernel
theorem dX3_putDoor_12 : decode cX3_putDoor 12 = .ok (.iload_n 2, 1) := by decide +kernel
theorem dX3_putDoor_13 : decode cX3_putDoor 13 = .ok (.ishl, 1) := by decide +kernel
theorem dX3_putDoor_14 : decode cX3_putDoor 14 = .ok (.iconst (-1), 1) := by decide +kernel
theorem dX3_putDoor_15 : decode cX3_putDoor 15 = .ok (.ixor, 1) := by decide +kernel
theorem dX3_putDoor_16 : decode cX3_putDoor 16 = .ok (.iand, 1) := by decide +kernel
theorem dX3_putDoor_17 : decode cX3_putDoor 17 = .ok (.iload_n 3, 1) := by decide +kernel
theorem dX3_putDoor_18 : decode cX3_putDoor 18 = .ok (.iload_n 2, 1) := by decide +kernel
theorem dX3_putDoor_19 : decode cX3_putDoor 19 = .ok (.ishl, 1) := by decide +kernel
theorem dX3_putDoor_20 : decode cX3_putDoor 20 = .ok (.ior, 1) := by decide +kernel
theorem dX3_putDoor_21 : decode cX3_putDoor 21 = .ok (.iastore, 1) := by decide +kernel
theorem dX3_putDoor_22 : decode cX3_putDoor 22 = .ok (.aload_n 0, 1) := by decide +kernel
theorem dX3_putDoor_23 : decode cX3_putDoor 23 = .ok (.getfield 15, 3) := by decide +kernel
theorem dX3_putDoor_26 : decode cX3_putDoor 26 = .ok (.iload_n 2, 1) := by decide +kernel
theorem dX3_putDoor_27 : decode cX3_putDoor 27 = .ok (.aload_n 0, 1) := by decide +kernel
theorem dX3_putDoor_28 : decode cX3_putDoor 28 = .ok (.getfield 15, 3) := by decide +kernel
theorem dX3_putDoor_31 : decode cX3_putDoor 31 = .ok (.iload_n 2, 1) := by decide +kernel
theorem dX3_putDoor_32 : decode cX3_putDoor 32 = .ok (.iaload, 1) := by decide +kernel
theorem dX3_putDoor_33 : decode cX3_putDoor 33 = .ok (.iconst 1, 1) := by decide +kernel
theorem dX3_putDoor_34 : decode cX3_putDoor 34 = .ok (.iload_n 1, 1) := by decide +kernel
theorem dX3_putDoor_35 : decode cX3_putDoor 35 = .ok (.ishl, 1) := by decide +kernel
theorem dX3_putDoor_36 : decode cX3_putDoor 36 = .ok (.iconst (-1), 1) := by decide +kernel
theorem dX3_putDoor_37 : decode cX3_putDoor 37 = .ok (.ixor, 1) := by decide +kernel
theorem dX3_putDoor_38 : decode cX3_putDoor 38 = .ok (.iand, 1) := by decide +kernel
theorem dX3_putDoor_39 : decode cX3_putDoor 39 = .ok (.iload_n 3, 1) := by decide +kernel
theorem dX3_putDoor_40 : decode cX3_putDoor 40 = .ok (.iload_n 1, 1) := by decide +kernel
theorem dX3_putDoor_41 : decode cX3_putDoor 41 = .ok (.ishl, 1) := by decide +kernel
theorem dX3_putDoor_42 : decode cX3_putDoor 42 = .ok (.ior, 1) := by decide +kernel
theorem dX3_putDoor_43 : decode cX3_putDoor 43 = .ok (.iastore, 1) := by decide +kernel
theorem dX3_putDoor_44 : decode cX3_putDoor 44 = .ok (.return_, 1) := by decide +kernel
theorem dX3_headsIn_0 : decode cX3_headsIn 0 = .ok (.iconst 0, 1) := by decide +kernel
theorem dX3_headsIn_1 : decode cX3_headsIn 1 = .ok (.istore_n 2, 1) := by decide +kernel
theorem dX3_headsIn_2 : decode cX3_headsIn 2 = .ok (.iconst 0, 1) := by decide +kernel
theorem dX3_headsIn_3 : decode cX3_headsIn 3 = .ok (.istore_n 3, 1) := by decide +kernel
theorem dX3_headsIn_4 : decode cX3_headsIn 4 = .ok (.iload_n 3, 1) := by decide +kernel
theorem dX3_headsIn_5 : decode cX3_headsIn 5 = .ok (.aload_n 0, 1) := by decide +kernel
theorem dX3_headsIn_6 : decode cX3_headsIn 6 = .ok (.getfield 43, 3) := by decide +kernel
theorem dX3_headsIn_9 : decode cX3_headsIn 9 = .ok (.if_icmp .ge 28, 3) := by decide +kernel
theorem dX3_headsIn_12 : decode cX3_headsIn 12 = .ok (.aload_n 0, 1) := by decide +kernel
theorem dX3_headsIn_13 : decode cX3_headsIn 13 = .ok (.getfield 24, 3) := by decide +kernel
theorem dX3_headsIn_16 : decode cX3_headsIn 16 = .ok (.iload_n 3, 1) := by decide +kernel
theorem dX3_headsIn_17 : decode cX3_headsIn 17 = .ok (.iaload, 1) := by decide +kernel
theorem dX3_headsIn_18 : decode cX3_headsIn 18 = .ok (.iload_n 1, 1) := by decide +kernel
theorem dX3_headsIn_19 : decode cX3_headsIn 19 = .ok (.if_icmp .ne 12, 3) := by decide +kernel
theorem dX3_headsIn_22 : decode cX3_headsIn 22 = .ok (.iload_n 2, 1) := by decide +kernel
theorem dX3_headsIn_23 : decode cX3_headsIn 23 = .ok (.aload_n 0, 1) := by decide +kernel
theorem dX3_headsIn_24 : decode cX3_headsIn 24 = .ok (.getfield 27, 3) := by decide +kernel
theorem dX3_headsIn_27 : decode cX3_headsIn 27 = .ok (.iload_n 3, 1) := by decide +kernel
theorem dX3_headsIn_28 : decode cX3_headsIn 28 = .ok (.iaload, 1) := by decide +kernel
theorem dX3_headsIn_29 : decode cX3_headsIn 29 = .ok (.iadd, 1) := by decide +kernel
theorem dX3_headsIn_30 : decode cX3_headsIn 30 = .ok (.istore_n 2, 1) := by decide +kernel
theorem dX3_headsIn_31 : decode cX3_headsIn 31 = .ok (.iinc 3 1, 3) := by decide +kernel
theorem dX3_headsIn_34 : decode cX3_headsIn 34 = .ok (.goto (-30), 3) := by decide +kernel
theorem dX3_headsIn_37 : decode cX3_headsIn 37 = .ok (.iload_n 2, 1) := by decide +kernel
theorem dX3_headsIn_38 : decode cX3_headsIn 38 = .ok (.ireturn, 1) := by decide +kernel
theorem dX3_allHeads_0 : decode cX3_allHeads 0 = .ok (.iconst 0, 1) := by decide +kernel
theorem dX3_allHeads_1 : decode cX3_allHeads 1 = .ok (.istore_n 1, 1) := by decide +kernel
theorem dX3_allHeads_2 : decode cX3_allHeads 2 = .ok (.iconst 0, 1) := by decide +kernel
theorem dX3_allHeads_3 : decode cX3_allHeads 3 = .ok (.istore_n 2, 1) := by decide +kernel
theorem dX3_allHeads_4 : decode cX3_allHeads 4 = .ok (.iload_n 2, 1) := by decide +kernel
theorem dX3_allHeads_5 : decode cX3_allHeads 5 = .ok (.aload_n 0, 1) := by decide +kernel
theorem dX3_allHeads_6 : decode cX3_allHeads 6 = .ok (.getfield 43, 3) := by decide +kernel
theorem dX3_allHeads_9 : decode cX3_allHeads 9 = .ok (.if_icmp .ge 18, 3) := by decide +kernel
theorem dX3_allHeads_12 : decode cX3_allHeads 12 = .ok (.iload_n 1, 1) := by decide +kernel
theorem dX3_allHeads_13 : decode cX3_allHeads 13 = .ok (.aload_n 0, 1) := by decide +kernel
theorem dX3_allHeads_14 : decode cX3_allHeads 14 = .ok (.getfield 27, 3) := by decide +kernel
theorem dX3_allHeads_17 : decode cX3_allHeads 17 = .ok (.iload_n 2, 1) := by decide +kernel
theorem dX3_allHeads_18 : decode cX3_allHeads 18 = .ok (.iaload, 1) := by decide +kernel
theorem dX3_allHeads_19 : decode cX3_allHeads 19 = .ok (.iadd, 1) := by decide +kernel
theorem dX3_allHeads_20 : decode cX3_allHeads 20 = .ok (.istore_n 1, 1) := by decide +kernel
theorem dX3_allHeads_21 : decode cX3_allHeads 21 = .ok (.iinc 2 1, 3) := by decide +kernel
theorem dX3_allHeads_24 : decode cX3_allHeads 24 = .ok (.goto (-20), 3) := by decide +kernel
theorem dX3_allHeads_27 : decode cX3_allHeads 27 = .ok (.iload_n 1, 1) := by decide +kernel
theorem dX3_allHeads_28 : decode cX3_allHeads 28 = .ok (.ireturn, 1) := by decide +kernel
theorem dX3_addHeads_0 : decode cX3_addHeads 0 = .ok (.iconst 0, 1) := by decide +kernel
theorem dX3_addHeads_1 : decode cX3_addHeads 1 = .ok (.istore_n 2, 1) := by decide +kernel
theorem dX3_addHeads_2 : decode cX3_addHeads 2 = .ok (.iload_n 2, 1) := by decide +kernel
theorem dX3_addHeads_3 : decode cX3_addHeads 3 = .ok (.aload_n 0, 1) := by decide +kernel
theorem dX3_addHeads_4 : decode cX3_addHeads 4 = .ok (.getfield 43, 3) := by decide +kernel
theorem dX3_addHeads_7 : decode cX3_addHeads 7 = .ok (.if_icmp .ge 23, 3) := by decide +kernel
theorem dX3_addHeads_10 : decode cX3_addHeads 10 = .ok (.aload_n 0, 1) := by decide +kernel
theorem dX3_addHeads_11 : decode cX3_addHeads 11 = .ok (.getfield 27, 3) := by decide +kernel
theorem dX3_addHeads_14 : decode cX3_addHeads 14 = .ok (.iload_n 2, 1) := by decide +kernel
theorem dX3_addHeads_15 : decode cX3_addHeads 15 = .ok (.dup2, 1) := by decide +kernel
theorem dX3_addHeads_16 : decode cX3_addHeads 16 = .ok (.iaload, 1) := by decide +kernel
theorem dX3_addHeads_17 : decode cX3_addHeads 17 = .ok (.iload_n 1, 1) := by decide +kernel
theorem dX3_addHeads_18 : decode cX3_addHeads 18 = .ok (.iload_n 2, 1) := by decide +kernel
theorem dX3_addHeads_19 : decode cX3_addHeads 19 = .ok (.ishr, 1) := by decide +kernel
theorem dX3_addHeads_20 : decode cX3_addHeads 20 = .ok (.iconst 1, 1) := by decide +kernel
theorem dX3_addHeads_21 : decode cX3_addHeads 21 = .ok (.iand, 1) := by decide +kernel
theorem dX3_addHeads_22 : decode cX3_addHeads 22 = .ok (.iadd, 1) := by decide +kernel
theorem dX3_addHeads_23 : decode cX3_addHeads 23 = .ok (.iastore, 1) := by decide +kernel
theorem dX3_addHeads_24 : decode cX3_addHeads 24 = .ok (.iinc 2 1, 3) := by decide +kernel
theorem dX3_addHeads_27 : decode cX3_addHeads 27 = .ok (.goto (-25), 3) := by decide +kernel
theorem dX3_addHeads_30 : decode cX3_addHeads 30 = .ok (.return_, 1) := by decide +kernel
theorem dX3_hire_0 : decode cX3_hire 0 = .ok (.aload_n 0, 1) := by decide +kernel
theorem dX3_hire_1 : decode cX3_hire 1 = .ok (.iload_n 1, 1) := by decide +kernel
theorem dX3_hire_2 : decode cX3_hire 2 = .ok (.putfield 49, 3) := by decide +kernel
theorem dX3_hire_5 : decode cX3_hire 5 = .ok (.aload_n 0, 1) := by decide +kernel
theorem dX3_hire_6 : decode cX3_hire 6 = .ok (.iload_n 2, 1) := by decide +kernel
theorem dX3_hire_7 : decode cX3_hire 7 = .ok (.putfield 58, 3) := by decide +kernel
theorem dX3_hire_10 : decode cX3_hire 10 = .ok (.aload_n 0, 1) := by decide +kernel
theorem dX3_hire_11 : decode cX3_hire 11 = .ok (.getfield 18, 3) := by decide +kernel
theorem dX3_hire_14 : decode cX3_hire 14 = .ok (.iload_n 2, 1) := by decide +kernel
theorem dX3_hire_15 : decode cX3_hire 15 = .ok (.dup2, 1) := by decide +kernel
theorem dX3_hire_16 : decode cX3_hire 16 = .ok (.iaload, 1) := by decide +kernel
theorem dX3_hire_17 : decode cX3_hire 17 = .ok (.iload_n 1, 1) := by decide +kernel
theorem dX3_hire_18 : decode cX3_hire 18 = .ok (.iadd, 1) := by decide +kernel
theorem dX3_hire_19 : decode cX3_hire 19 = .ok (.iastore, 1) := by decide +kernel
theorem dX3_hire_20 : decode cX3_hire 20 = .ok (.return_, 1) := by decide +kernel
theorem dX3_ring_0 : decode cX3_ring 0 = .ok (.aload_n 0, 1) := by decide +kernel
theorem dX3_ring_1 : decode cX3_ring 1 = .ok (.invokevirtual 61, 3) := by decide +kernel
theorem dX3_ring_4 : decode cX3_ring 4 = .ok (.iconst 0, 1) := by decide +kernel
theorem dX3_ring_5 : decode cX3_ring 5 = .ok (.istore_n 1, 1) := by decide +kernel
theorem dX3_ring_6 : decode cX3_ring 6 = .ok (.iload_n 1, 1) := by decide +kernel
theorem dX3_ring_7 : decode cX3_ring 7 = .ok (.aload_n 0, 1) := by decide +kernel
theorem dX3_ring_8 : decode cX3_ring 8 = .ok (.getfield 43, 3) := by decide +kernel
theorem dX3_ring_11 : decode cX3_ring 11 = .ok (.if_icmp .ge 20, 3) := by decide +kernel
theorem dX3_ring_14 : decode cX3_ring 14 = .ok (.aload_n 0, 1) := by decide +kernel
theorem dX3_ring_15 : decode cX3_ring 15 = .ok (.getfield 36, 3) := by decide +kernel
theorem dX3_ring_18 : decode cX3_ring 18 = .ok (.iload_n 1, 1) := by decide +kernel
theorem dX3_ring_19 : decode cX3_ring 19 = .ok (.aload_n 0, 1) := by decide +kernel
theorem dX3_ring_20 : decode cX3_ring 20 = .ok (.iload_n 1, 1) := by decide +kernel
theorem dX3_ring_21 : decode cX3_ring 21 = .ok (.invokevirtual 64, 3) := by decide +kernel
theorem dX3_ring_24 : decode cX3_ring 24 = .ok (.iastore, 1) := by decide +kernel
theorem dX3_ring_25 : decode cX3_ring 25 = .ok (.iinc 1 1, 3) := by decide +kernel
theorem dX3_ring_28 : decode cX3_ring 28 = .ok (.goto (-22), 3) := by decide +kernel
theorem dX3_ring_31 : decode cX3_ring 31 = .ok (.aload_n 0, 1) := by decide +kernel
theorem dX3_ring_32 : decode cX3_ring 32 = .ok (.getfield 30, 3) := by decide +kernel
theorem dX3_ring_35 : decode cX3_ring 35 = .ok (.iconst 0, 1) := by decide +kernel
theorem dX3_ring_36 : decode cX3_ring 36 = .ok (.aload_n 0, 1) := by decide +kernel
theorem dX3_ring_37 : decode cX3_ring 37 = .ok (.getfield 18, 3) := by decide +kernel
theorem dX3_ring_40 : decode cX3_ring 40 = .ok (.iconst 0, 1) := by decide +kernel
theorem dX3_ring_41 : decode cX3_ring 41 = .ok (.bipush 6, 2) := by decide +kernel
theorem dX3_ring_43 : decode cX3_ring 43 = .ok (.invokestatic 52, 3) := by decide +kernel
theorem dX3_ring_46 : decode cX3_ring 46 = .ok (.aload_n 0, 1) := by decide +kernel
theorem dX3_ring_47 : decode cX3_ring 47 = .ok (.dup, 1) := by decide +kernel
theorem dX3_ring_48 : decode cX3_ring 48 = .ok (.getfield 46, 3) := by decide +kernel
theorem dX3_ring_51 : decode cX3_ring 51 = .ok (.iconst 1, 1) := by decide +kernel
theorem dX3_ring_52 : decode cX3_ring 52 = .ok (.iadd, 1) := by decide +kernel
theorem dX3_ring_53 : decode cX3_ring 53 = .ok (.putfield 46, 3) := by decide +kernel
theorem dX3_ring_56 : decode cX3_ring 56 = .ok (.iconst 0, 1) := by decide +kernel
theorem dX3_ring_57 : decode cX3_ring 57 = .ok (.istore_n 1, 1) := by decide +kernel
theorem dX3_ring_58 : decode cX3_ring 58 = .ok (.iconst 0, 1) := by decide +kernel
theorem dX3_ring_59 : decode cX3_ring 59 = .ok (.istore_n 2, 1) := by decide +kernel
theorem dX3_ring_60 : decode cX3_ring 60 = .ok (.iload_n 2, 1) := by decide +kernel
theorem dX3_ring_61 : decode cX3_ring 61 = .ok (.aload_n 0, 1) := by decide +kernel
theorem dX3_ring_62 : decode cX3_ring 62 = .ok (.getfield 43, 3) := by decide +kernel
theorem dX3_ring_65 : decode cX3_ring 65 = .ok (.if_icmp .ge 42, 3) := by decide +kernel
theorem dX3_ring_68 : decode cX3_ring 68 = .ok (.aload_n 0, 1) := by decide +kernel
theorem dX3_ring_69 : decode cX3_ring 69 = .ok (.getfield 36, 3) := by decide +kernel
theorem dX3_ring_72 : decode cX3_ring 72 = .ok (.iload_n 2, 1) := by decide +kernel
theorem dX3_ring_73 : decode cX3_ring 73 = .ok (.iaload, 1) := by decide +kernel
theorem dX3_ring_74 : decode cX3_ring 74 = .ok (.aload_n 0, 1) := by decide +kernel
theorem dX3_ring_75 : decode cX3_ring 75 = .ok (.getfield 24, 3) := by decide +kernel
theorem dX3_ring_78 : decode cX3_ring 78 = .ok (.iload_n 2, 1) := by decide +kernel
theorem dX3_ring_79 : decode cX3_ring 79 = .ok (.iaload, 1) := by decide +kernel
theorem dX3_ring_80 : decode cX3_ring 80 = .ok (.if_icmp .eq 21, 3) := by decide +kernel
theorem dX3_ring_83 : decode cX3_ring 83 = .ok (.iload_n 1, 1) := by decide +kernel
theorem dX3_ring_84 : decode cX3_ring 84 = .ok (.iconst 1, 1) := by decide +kernel
theorem dX3_ring_85 : decode cX3_ring 85 = .ok (.iload_n 2, 1) := by decide +kernel
theorem dX3_ring_86 : decode cX3_ring 86 = .ok (.ishl, 1) := by decide +kernel
theorem dX3_ring_87 : decode cX3_ring 87 = .ok (.ior, 1) := by decide +kernel
theorem dX3_ring_88 : decode cX3_ring 88 = .ok (.istore_n 1, 1) := by decide +kernel
theorem dX3_ring_89 : decode cX3_ring 89 = .ok (.aload_n 0, 1) := by decide +kernel
theorem dX3_ring_90 : decode cX3_ring 90 = .ok (.getfield 24, 3) := by decide +kernel
theorem dX3_ring_93 : decode cX3_ring 93 = .ok (.iload_n 2, 1) := by decide +kernel
theorem dX3_ring_94 : decode cX3_ring 94 = .ok (.aload_n 0, 1) := by decide +kernel
theorem dX3_ring_95 : decode cX3_ring 95 = .ok (.getfield 36, 3) := by decide +kernel
theorem dX3_ring_98 : decode cX3_ring 98 = .ok (.iload_n 2, 1) := by decide +kernel
theorem dX3_ring_99 : decode cX3_ring 99 = .ok (.iaload, 1) := by decide +kernel
theorem dX3_ring_100 : decode cX3_ring 100 = .ok (.iastore, 1) := by decide +kernel
theorem dX3_ring_101 : decode cX3_ring 101 = .ok (.iinc 2 1, 3) := by decide +kernel
theorem dX3_ring_104 : decode cX3_ring 104 = .ok (.goto (-44), 3) := by decide +kernel
theorem dX3_ring_107 : decode cX3_ring 107 = .ok (.iload_n 1, 1) := by decide +kernel
theorem dX3_ring_108 : decode cX3_ring 108 = .ok (.ireturn, 1) := by decide +kernel
theorem dX3_countHeads_0 : decode cX3_countHeads 0 = .ok (.iconst 0, 1) := by decide +kernel
theorem dX3_countHeads_1 : decode cX3_countHeads 1 = .ok (.istore_n 1, 1) := by decide +kernel
theorem dX3_countHeads_2 : decode cX3_countHeads 2 = .ok (.iload_n 1, 1) := by decide +kernel
theorem dX3_countHeads_3 : decode cX3_countHeads 3 = .ok (.bipush 6, 2) := by decide +kernel
theorem dX3_countHeads_5 : decode cX3_countHeads 5 = .ok (.if_icmp .ge 23, 3) := by decide +kernel
theorem dX3_countHeads_8 : decode cX3_countHeads 8 = .ok (.aload_n 0, 1) := by decide +kernel
theorem dX3_countHeads_9 : decode cX3_countHeads 9 = .ok (.getfield 30, 3) := by decide +kernel
theorem dX3_countHeads_12 : decode cX3_countHeads 12 = .ok (.iload_n 1, 1) := by decide +kernel
theorem dX3_countHeads_13 : decode cX3_countHeads 13 = .ok (.iconst 0, 1) := by decide +kernel
theorem dX3_countHeads_14 : decode cX3_countHeads 14 = .ok (.iastore, 1) := by decide +kernel
theorem dX3_countHeads_15 : decode cX3_countHeads 15 = .ok (.aload_n 0, 1) := by decide +kernel
theorem dX3_countHeads_16 : decode cX3_countHeads 16 = .ok (.getfield 33, 3) := by decide +kernel
theorem dX3_countHeads_19 : decode cX3_countHeads 19 = .ok (.iload_n 1, 1) := by decide +kernel
theorem dX3_countHeads_20 : decode cX3_countHeads 20 = .ok (.iconst 0, 1) := by decide +kernel
theorem dX3_countHeads_21 : decode cX3_countHeads 21 = .ok (.iastore, 1) := by decide +kernel
theorem dX3_countHeads_22 : decode cX3_countHeads 22 = .ok (.iinc 1 1, 3) := by decide +kernel
theorem dX3_countHeads_25 : decode cX3_countHeads 25 = .ok (.goto (-23), 3) := by decide +kernel
theorem dX3_countHeads_28 : decode cX3_countHeads 28 = .ok (.aload_n 0, 1) := by decide +kernel
theorem dX3_countHeads_29 : decode cX3_countHeads 29 = .ok (.getfield 30, 3) := by decide +kernel
theorem dX3_countHeads_32 : decode cX3_countHeads 32 = .ok (.aload_n 0, 1) := by decide +kernel
theorem dX3_countHeads_33 : decode cX3_countHeads 33 = .ok (.getfield 58, 3) := by decide +kernel
theorem dX3_countHeads_36 : decode cX3_countHeads 36 = .ok (.dup2, 1) := by decide +kernel
theorem dX3_countHeads_37 : decode cX3_countHeads 37 = .ok (.iaload, 1) := by decide +kernel
theorem dX3_countHeads_38 : decode cX3_countHeads 38 = .ok (.aload_n 0, 1) := by decide +kernel
theorem dX3_countHeads_39 : decode cX3_countHeads 39 = .ok (.getfield 49, 3) := by decide +kernel
theorem dX3_countHeads_42 : decode cX3_countHeads 42 = .ok (.iadd, 1) := by decide +kernel
theorem dX3_countHeads_43 : decode cX3_countHeads 43 = .ok (.iastore, 1) := by decide +kernel
theorem dX3_countHeads_44 : decode cX3_countHeads 44 = .ok (.iconst 0, 1) := by decide +kernel
theorem dX3_countHeads_45 : decode cX3_countHeads 45 = .ok (.istore_n 1, 1) := by decide +kernel
theorem dX3_countHeads_46 : decode cX3_countHeads 46 = .ok (.iload_n 1, 1) := by decide +kernel
theorem dX3_countHeads_47 : decode cX3_countHeads 47 = .ok (.aload_n 0, 1) := by decide +kernel
theorem dX3_countHeads_48 : decode cX3_countHeads 48 = .ok (.getfield 43, 3) := by decide +kernel
theorem dX3_countHeads_51 : decode cX3_countHeads 51 = .ok (.if_icmp .ge 59, 3) := by decide +kernel
theorem dX3_countHeads_54 : decode cX3_countHeads 54 = .ok (.aload_n 0, 1) := by decide +kernel
theorem dX3_countHeads_55 : decode cX3_countHeads 55 = .ok (.getfield 30, 3) := by decide +kernel
theorem dX3_countHeads_58 : decode cX3_countHeads 58 = .ok (.aload_n 0, 1) := by decide +kernel
theorem dX3_countHeads_59 : decode cX3_countHeads 59 = .ok (.getfield 24, 3) := by decide +kernel
theorem dX3_countHeads_62 : decode cX3_countHeads 62 = .ok (.iload_n 1, 1) := by decide +kernel
theorem dX3_countHeads_63 : decode cX3_countHeads 63 = .ok (.iaload, 1) := by decide +kernel
theorem dX3_countHeads_64 : decode cX3_countHeads 64 = .ok (.dup2, 1) := by decide +kernel
theorem dX3_countHeads_65 : decode cX3_countHeads 65 = .ok (.iaload, 1) := by decide +kernel
theorem dX3_countHeads_66 : decode cX3_countHeads 66 = .ok (.aload_n 0, 1) := by decide +kernel
theorem dX3_countHeads_67 : decode cX3_countHeads 67 = .ok (.getfield 27, 3) := by decide +kernel
theorem dX3_countHeads_70 : decode cX3_countHeads 70 = .ok (.iload_n 1, 1) := by decide +kernel
theorem dX3_countHeads_71 : decode cX3_countHeads 71 = .ok (.iaload, 1) := by decide +kernel
theorem dX3_countHeads_72 : decode cX3_countHeads 72 = .ok (.iadd, 1) := by decide +kernel
theorem dX3_countHeads_73 : decode cX3_countHeads 73 = .ok (.iastore, 1) := by decide +kernel
theorem dX3_countHeads_74 : decode cX3_countHeads 74 = .ok (.aload_n 0, 1) := by decide +kernel
theorem dX3_countHeads_75 : decode cX3_countHeads 75 = .ok (.getfield 21, 3) := by decide +kernel
theorem dX3_countHeads_78 : decode cX3_countHeads 78 = .ok (.iload_n 1, 1) := by decide +kernel
theorem dX3_countHeads_79 : decode cX3_countHeads 79 = .ok (.iaload, 1) := by decide +kernel
theorem dX3_countHeads_80 : decode cX3_countHeads 80 = .ok (.iconst 2, 1) := by decide +kernel
theorem dX3_countHeads_81 : decode cX3_countHeads 81 = .ok (.if_icmp .ne 23, 3) := by decide +kernel
theorem dX3_countHeads_84 : decode cX3_countHeads 84 = .ok (.aload_n 0, 1) := by decide +kernel
theorem dX3_countHeads_85 : decode cX3_countHeads 85 = .ok (.getfield 33, 3) := by decide +kernel
theorem dX3_countHeads_88 : decode cX3_countHeads 88 = .ok (.aload_n 0, 1) := by decide +kernel
theorem dX3_countHeads_89 : decode cX3_countHeads 89 = .ok (.getfield 24, 3) := by decide +kernel
theorem dX3_countHeads_92 : decode cX3_countHeads 92 = .ok (.iload_n 1, 1) := by decide +kernel
theorem dX3_countHeads_93 : decode cX3_countHeads 93 = .ok (.iaload, 1) := by decide +kernel
theorem dX3_countHeads_94 : decode cX3_countHeads 94 = .ok (.dup2, 1) := by decide +kernel
theorem dX3_countHeads_95 : decode cX3_countHeads 95 = .ok (.iaload, 1) := by decide +kernel
theorem dX3_countHeads_96 : decode cX3_countHeads 96 = .ok (.aload_n 0, 1) := by decide +kernel
theorem dX3_countHeads_97 : decode cX3_countHeads 97 = .ok (.getfield 27, 3) := by decide +kernel
theorem dX3_countHeads_100 : decode cX3_countHeads 100 = .ok (.iload_n 1, 1) := by decide +kernel
theorem dX3_countHeads_101 : decode cX3_countHeads 101 = .ok (.iaload, 1) := by decide +kernel
theorem dX3_countHeads_102 : decode cX3_countHeads 102 = .ok (.iadd, 1) := by decide +kernel
theorem dX3_countHeads_103 : decode cX3_countHeads 103 = .ok (.iastore, 1) := by decide +kernel
theorem dX3_countHeads_104 : decode cX3_countHeads 104 = .ok (.iinc 1 1, 3) := by decide +kernel
theorem dX3_countHeads_107 : decode cX3_countHeads 107 = .ok (.goto (-61), 3) := by decide +kernel
theorem dX3_countHeads_110 : decode cX3_countHeads 110 = .ok (.return_, 1) := by decide +kernel
theorem dX3_goalOf_0 : decode cX3_goalOf 0 = .ok (.aload_n 0, 1) := by decide +kernel
theorem dX3_goalOf_1 : decode cX3_goalOf 1 = .ok (.getfield 24, 3) := by decide +kernel
theorem dX3_goalOf_4 : decode cX3_goalOf 4 = .ok (.iload_n 1, 1) := by decide +kernel
theorem dX3_goalOf_5 : decode cX3_goalOf 5 = .ok (.iaload, 1) := by decide +kernel
theorem dX3_goalOf_6 : decode cX3_goalOf 6 = .ok (.istore_n 2, 1) := by decide +kernel
theorem dX3_goalOf_7 : decode cX3_goalOf 7 = .ok (.aload_n 0, 1) := by decide +kernel
theorem dX3_goalOf_8 : decode cX3_goalOf 8 = .ok (.getfield 21, 3) := by decide +kernel
theorem dX3_goalOf_11 : decode cX3_goalOf 11 = .ok (.iload_n 1, 1) := by decide +kernel
theorem dX3_goalOf_12 : decode cX3_goalOf 12 = .ok (.iaload, 1) := by decide +kernel
theorem dX3_goalOf_13 : decode cX3_goalOf 13 = .ok (.istore_n 3, 1) := by decide +kernel
theorem dX3_goalOf_14 : decode cX3_goalOf 14 = .ok (.iload_n 3, 1) := by decide +kernel
theorem dX3_goalOf_15 : decode cX3_goalOf 15 = .ok (.iconst 4, 1) := by decide +kernel
theorem dX3_goalOf_16 : decode cX3_goalOf 16 = .ok (.if_icmp .ne 5, 3) := by decide +kernel
theorem dX3_goalOf_19 : decode cX3_goalOf 19 = .ok (.iload_n 2, 1) := by decide +kernel
theorem dX3_goalOf_20 : decode cX3_goalOf 20 = .ok (.ireturn, 1) := by decide +kernel
theorem dX3_goalOf_21 : decode cX3_goalOf 21 = .ok (.iload_n 3, 1) := by decide +kernel
theorem dX3_goalOf_22 : decode cX3_goalOf 22 = .ok (.iconst 2, 1) := by decide +kernel
theorem dX3_goalOf_23 : decode cX3_goalOf 23 = .ok (.if_icmp .ne 10, 3) := by decide +kernel
theorem dX3_goalOf_26 : decode cX3_goalOf 26 = .ok (.aload_n 0, 1) := by decide +kernel
theorem dX3_goalOf_27 : decode cX3_goalOf 27 = .ok (.getfield 33, 3) := by decide +kernel
theorem dX3_goalOf_30 : decode cX3_goalOf 30 = .ok (.goto 26, 3) := by decide +kernel
theorem dX3_goalOf_33 : decode cX3_goalOf 33 = .ok (.iload_n 3, 1) := by decide +kernel
theorem dX3_goalOf_34 : decode cX3_goalOf 34 = .ok (.iconst 3, 1) := by decide +kernel
theorem dX3_goalOf_35 : decode cX3_goalOf 35 = .ok (.if_icmp .ne 17, 3) := by decide +kernel
theorem dX3_goalOf_38 : decode cX3_goalOf 38 = .ok (.aload_n 0, 1) := by decide +kernel
theorem dX3_goalOf_39 : decode cX3_goalOf 39 = .ok (.getfield 46, 3) := by decide +kernel
theorem dX3_goalOf_42 : decode cX3_goalOf 42 = .ok (.ifCond .le 10, 3) := by decide +kernel
theorem dX3_goalOf_45 : decode cX3_goalOf 45 = .ok (.aload_n 0, 1) := by decide +kernel
theorem dX3_goalOf_46 : decode cX3_goalOf 46 = .ok (.getfield 18, 3) := by decide +kernel
theorem dX3_goalOf_49 : decode cX3_goalOf 49 = .ok (.goto 7, 3) := by decide +kernel
theorem dX3_goalOf_52 : decode cX3_goalOf 52 = .ok (.aload_n 0, 1) := by decide +kernel
theorem dX3_goalOf_53 : decode cX3_goalOf 53 = .ok (.getfield 30, 3) := by decide +kernel
theorem dX3_goalOf_56 : decode cX3_goalOf 56 = .ok (.astore 4, 2) := by decide +kernel
theorem dX3_goalOf_58 : decode cX3_goalOf 58 = .ok (.iload_n 3, 1) := by decide +kernel
theorem dX3_goalOf_59 : decode cX3_goalOf 59 = .ok (.iconst 5, 1) := by decide +kernel
theorem dX3_goalOf_60 : decode cX3_goalOf 60 = .ok (.if_icmp .ne 7, 3) := by decide +kernel
theorem dX3_goalOf_63 : decode cX3_goalOf 63 = .ok (.iconst (-1), 1) := by decide +kernel
theorem dX3_goalOf_64 : decode cX3_goalOf 64 = .ok (.goto 4, 3) := by decide +kernel
theorem dX3_goalOf_67 : decode cX3_goalOf 67 = .ok (.iconst 1, 1) := by decide +kernel
theorem dX3_goalOf_68 : decode cX3_goalOf 68 = .ok (.istore 5, 2) := by decide +kernel
theorem dX3_goalOf_70 : decode cX3_goalOf 70 = .ok (.iload_n 2, 1) := by decide +kernel
theorem dX3_goalOf_71 : decode cX3_goalOf 71 = .ok (.istore 6, 2) := by decide +kernel
theorem dX3_goalOf_73 : decode cX3_goalOf 73 = .ok (.iconst 0, 1) := by decide +kernel
theorem dX3_goalOf_74 : decode cX3_goalOf 74 = .ok (.istore 7, 2) := by decide +kernel
theorem dX3_goalOf_76 : decode cX3_goalOf 76 = .ok (.iload 7, 2) := by decide +kernel
theorem dX3_goalOf_78 : decode cX3_goalOf 78 = .ok (.aload_n 0, 1) := by decide +kernel
theorem dX3_goalOf_79 : decode cX3_goalOf 79 = .ok (.getfield 39, 3) := by decide +kernel
theorem dX3_goalOf_82 : decode cX3_goalOf 82 = .ok (.if_icmp .ge 47, 3) := by decide +kernel
theorem dX3_goalOf_85 : decode cX3_goalOf 85 = .ok (.aload_n 0, 1) := by decide +kernel
theorem dX3_goalOf_86 : decode cX3_goalOf 86 = .ok (.getfield 15, 3) := by decide +kernel
theorem dX3_goalOf_89 : decode cX3_goalOf 89 = .ok (.iload_n 2, 1) := by decide +kernel
theorem dX3_goalOf_90 : decode cX3_goalOf 90 = .ok (.iaload, 1) := by decide +kernel
theorem dX3_goalOf_91 : decode cX3_goalOf 91 = .ok (.iload 7, 2) := by decide +kernel
theorem dX3_goalOf_93 : decode cX3_goalOf 93 = .ok (.ishr, 1) := by decide +kernel
theorem dX3_goalOf_94 : decode cX3_goalOf 94 = .ok (.iconst 1, 1) := by decide +kernel
theorem dX3_goalOf_95 : decode cX3_goalOf 95 = .ok (.iand, 1) := by decide +kernel
theorem dX3_goalOf_96 : decode cX3_goalOf 96 = .ok (.iconst 1, 1) := by decide +kernel
theorem dX3_goalOf_97 : decode cX3_goalOf 97 = .ok (.if_icmp .ne 26, 3) := by decide +kernel
theorem dX3_goalOf_100 : decode cX3_goalOf 100 = .ok (.iload 5, 2) := by decide +kernel
theorem dX3_goalOf_102 : decode cX3_goalOf 102 = .ok (.aload 4, 2) := by decide +kernel
theorem dX3_goalOf_104 : decode cX3_goalOf 104 = .ok (.iload 7, 2) := by decide +kernel
theorem dX3_goalOf_106 : decode cX3_goalOf 106 = .ok (.iaload, 1) := by decide +kernel
theorem dX3_goalOf_107 : decode cX3_goalOf 107 = .ok (.imul, 1) := by decide +kernel
theorem dX3_goalOf_108 : decode cX3_goalOf 108 = .ok (.iload 5, 2) := by decide +kernel
theorem dX3_goalOf_110 : decode cX3_goalOf 110 = .ok (.aload 4, 2) := by decide +kernel
theorem dX3_goalOf_112 : decode cX3_goalOf 112 = .ok (.iload 6, 2) := by decide +kernel
theorem dX3_goalOf_114 : decode cX3_goalOf 114 = .ok (.iaload, 1) := by decide +kernel
theorem dX3_goalOf_115 : decode cX3_goalOf 115 = .ok (.imul, 1) := by decide +kernel
theorem dX3_goalOf_116 : decode cX3_goalOf 116 = .ok (.if_icmp .le 7, 3) := by decide +kernel
theorem dX3_goalOf_119 : decode cX3_goalOf 119 = .ok (.iload 7, 2) := by decide +kernel
theorem dX3_goalOf_121 : decode cX3_goalOf 121 = .ok (.istore 6, 2) := by decide +kernel
theorem dX3_goalOf_123 : decode cX3_goalOf 123 = .ok (.iinc 7 1, 3) := by decide +kernel
theorem dX3_goalOf_126 : decode cX3_goalOf 126 = .ok (.goto (-50), 3) := by decide +kernel
theorem dX3_goalOf_129 : decode cX3_goalOf 129 = .ok (.iload 6, 2) := by decide +kernel
theorem dX3_goalOf_131 : decode cX3_goalOf 131 = .ok (.ireturn, 1) := by decide +kernel
