theorem dX6_init_0 : decode cX6_init 0 = .ok (.aload_n 0, 1) := by decide +kernel
theorem dX6_init_1 : decode cX6_init 1 = .ok (.invokespecial 3, 3) := by decide +kernel
theorem dX6_init_4 : decode cX6_init 4 = .ok (.aload_n 0, 1) := by decide +kernel
theorem dX6_init_5 : decode cX6_init 5 = .ok (.sipush 700, 3) := by decide +kernel
theorem dX6_init_8 : decode cX6_init 8 = .ok (.newarray .int, 2) := by decide +kernel
theorem dX6_init_10 : decode cX6_init 10 = .ok (.putfield 9, 3) := by decide +kernel
theorem dX6_init_13 : decode cX6_init 13 = .ok (.aload_n 0, 1) := by decide +kernel
theorem dX6_init_14 : decode cX6_init 14 = .ok (.iconst 0, 1) := by decide +kernel
theorem dX6_init_15 : decode cX6_init 15 = .ok (.putfield 15, 3) := by decide +kernel
theorem dX6_init_18 : decode cX6_init 18 = .ok (.return_, 1) := by decide +kernel
theorem dX6_hasRoomForFive_0 : decode cX6_hasRoomForFive 0 = .ok (.aload_n 0, 1) := by decide +kernel
theorem dX6_hasRoomForFive_1 : decode cX6_hasRoomForFive 1 = .ok (.getfield 15, 3) := by decide +kernel
theorem dX6_hasRoomForFive_4 : decode cX6_hasRoomForFive 4 = .ok (.bipush 20, 2) := by decide +kernel
theorem dX6_hasRoomForFive_6 : decode cX6_hasRoomForFive 6 = .ok (.iadd, 1) := by decide +kernel
theorem dX6_hasRoomForFive_7 : decode cX6_hasRoomForFive 7 = .ok (.sipush 700, 3) := by decide +kernel
theorem dX6_hasRoomForFive_10 : decode cX6_hasRoomForFive 10 = .ok (.if_icmp .gt 7, 3) := by decide +kernel
theorem dX6_hasRoomForFive_13 : decode cX6_hasRoomForFive 13 = .ok (.iconst 1, 1) := by decide +kernel
theorem dX6_hasRoomForFive_14 : decode cX6_hasRoomForFive 14 = .ok (.goto 4, 3) := by decide +kernel
theorem dX6_hasRoomForFive_17 : decode cX6_hasRoomForFive 17 = .ok (.iconst 0, 1) := by decide +kernel
theorem dX6_hasRoomForFive_18 : decode cX6_hasRoomForFive 18 = .ok (.ireturn, 1) := by decide +kernel
theorem dX6_addFour_0 : decode cX6_addFour 0 = .ok (.bipush 24, 2) := by decide +kernel
theorem dX6_addFour_2 : decode cX6_addFour 2 = .ok (.istore_n 2, 1) := by decide +kernel
theorem dX6_addFour_3 : decode cX6_addFour 3 = .ok (.iload_n 2, 1) := by decide +kernel
theorem dX6_addFour_4 : decode cX6_addFour 4 = .ok (.ifCond .lt 45, 3) := by decide +kernel
theorem dX6_addFour_7 : decode cX6_addFour 7 = .ok (.aload_n 0, 1) := by decide +kernel
theorem dX6_addFour_8 : decode cX6_addFour 8 = .ok (.getfield 15, 3) := by decide +kernel
theorem dX6_addFour_11 : decode cX6_addFour 11 = .ok (.sipush 700, 3) := by decide +kernel
theorem dX6_addFour_14 : decode cX6_addFour 14 = .ok (.if_icmp .ge 29, 3) := by decide +kernel
theorem dX6_addFour_17 : decode cX6_addFour 17 = .ok (.aload_n 0, 1) := by decide +kernel
theorem dX6_addFour_18 : decode cX6_addFour 18 = .ok (.getfield 9, 3) := by decide +kernel
theorem dX6_addFour_21 : decode cX6_addFour 21 = .ok (.aload_n 0, 1) := by decide +kernel
theorem dX6_addFour_22 : decode cX6_addFour 22 = .ok (.getfield 15, 3) := by decide +kernel
theorem dX6_addFour_25 : decode cX6_addFour 25 = .ok (.iload_n 1, 1) := by decide +kernel
theorem dX6_addFour_26 : decode cX6_addFour 26 = .ok (.iload_n 2, 1) := by decide +kernel
theorem dX6_addFour_27 : decode cX6_addFour 27 = .ok (.iushr, 1) := by decide +kernel
theorem dX6_addFour_28 : decode cX6_addFour 28 = .ok (.sipush 255, 3) := by decide +kernel
theorem dX6_addFour_31 : decode cX6_addFour 31 = .ok (.iand, 1) := by decide +kernel
theorem dX6_addFour_32 : decode cX6_addFour 32 = .ok (.iastore, 1) := by decide +kernel
theorem dX6_addFour_33 : decode cX6_addFour 33 = .ok (.aload_n 0, 1) := by decide +kernel
theorem dX6_addFour_34 : decode cX6_addFour 34 = .ok (.dup, 1) := by decide +kernel
theorem dX6_addFour_35 : decode cX6_addFour 35 = .ok (.getfield 15, 3) := by decide +kernel
theorem dX6_addFour_38 : decode cX6_addFour 38 = .ok (.iconst 1, 1) := by decide +kernel
theorem dX6_addFour_39 : decode cX6_addFour 39 = .ok (.iadd, 1) := by decide +kernel
theorem dX6_addFour_40 : decode cX6_addFour 40 = .ok (.putfield 15, 3) := by decide +kernel
theorem dX6_addFour_43 : decode cX6_addFour 43 = .ok (.iinc 2 (-8), 3) := by decide +kernel
theorem dX6_addFour_46 : decode cX6_addFour 46 = .ok (.goto (-43), 3) := by decide +kernel
theorem dX6_addFour_49 : decode cX6_addFour 49 = .ok (.return_, 1) := by decide +kernel
theorem dX6_at_0 : decode cX6_at 0 = .ok (.iload_n 1, 1) := by decide +kernel
theorem dX6_at_1 : decode cX6_at 1 = .ok (.ifCond .lt 20, 3) := by decide +kernel
theorem dX6_at_4 : decode cX6_at 4 = .ok (.iload_n 1, 1) := by decide +kernel
theorem dX6_at_5 : decode cX6_at 5 = .ok (.aload_n 0, 1) := by decide +kernel
theorem dX6_at_6 : decode cX6_at 6 = .ok (.getfield 15, 3) := by decide +kernel
theorem dX6_at_9 : decode cX6_at 9 = .ok (.if_icmp .ge 12, 3) := by decide +kernel
theorem dX6_at_12 : decode cX6_at 12 = .ok (.aload_n 0, 1) := by decide +kernel
theorem dX6_at_13 : decode cX6_at 13 = .ok (.getfield 9, 3) := by decide +kernel
theorem dX6_at_16 : decode cX6_at 16 = .ok (.iload_n 1, 1) := by decide +kernel
theorem dX6_at_17 : decode cX6_at 17 = .ok (.iaload, 1) := by decide +kernel
theorem dX6_at_18 : decode cX6_at 18 = .ok (.goto 4, 3) := by decide +kernel
theorem dX6_at_21 : decode cX6_at 21 = .ok (.iconst (-1), 1) := by decide +kernel
theorem dX6_at_22 : decode cX6_at 22 = .ok (.ireturn, 1) := by decide +kernel
