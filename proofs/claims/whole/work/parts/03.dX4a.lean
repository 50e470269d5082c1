theorem dX4_init_0 : decode cX4_init 0 = .ok (.aload_n 0, 1) := by decide +kernel
theorem dX4_init_1 : decode cX4_init 1 = .ok (.invokespecial 3, 3) := by decide +kernel
theorem dX4_init_4 : decode cX4_init 4 = .ok (.aload_n 0, 1) := by decide +kernel
theorem dX4_init_5 : decode cX4_init 5 = .ok (.bipush 30, 2) := by decide +kernel
theorem dX4_init_7 : decode cX4_init 7 = .ok (.newarray .int, 2) := by decide +kernel
theorem dX4_init_9 : decode cX4_init 9 = .ok (.putfield 9, 3) := by decide +kernel
theorem dX4_init_12 : decode cX4_init 12 = .ok (.aload_n 0, 1) := by decide +kernel
theorem dX4_init_13 : decode cX4_init 13 = .ok (.bipush 30, 2) := by decide +kernel
theorem dX4_init_15 : decode cX4_init 15 = .ok (.newarray .int, 2) := by decide +kernel
theorem dX4_init_17 : decode cX4_init 17 = .ok (.putfield 15, 3) := by decide +kernel
theorem dX4_init_20 : decode cX4_init 20 = .ok (.aload_n 0, 1) := by decide +kernel
theorem dX4_init_21 : decode cX4_init 21 = .ok (.bipush 30, 2) := by decide +kernel
theorem dX4_init_23 : decode cX4_init 23 = .ok (.newarray .int, 2) := by decide +kernel
theorem dX4_init_25 : decode cX4_init 25 = .ok (.putfield 18, 3) := by decide +kernel
theorem dX4_init_28 : decode cX4_init 28 = .ok (.aload_n 0, 1) := by decide +kernel
theorem dX4_init_29 : decode cX4_init 29 = .ok (.bipush 30, 2) := by decide +kernel
theorem dX4_init_31 : decode cX4_init 31 = .ok (.newarray .int, 2) := by decide +kernel
theorem dX4_init_33 : decode cX4_init 33 = .ok (.putfield 21, 3) := by decide +kernel
theorem dX4_init_36 : decode cX4_init 36 = .ok (.aload_n 0, 1) := by decide +kernel
theorem dX4_init_37 : decode cX4_init 37 = .ok (.bipush 30, 2) := by decide +kernel
theorem dX4_init_39 : decode cX4_init 39 = .ok (.newarray .int, 2) := by decide +kernel
theorem dX4_init_41 : decode cX4_init 41 = .ok (.putfield 24, 3) := by decide +kernel
theorem dX4_init_44 : decode cX4_init 44 = .ok (.aload_n 0, 1) := by decide +kernel
theorem dX4_init_45 : decode cX4_init 45 = .ok (.bipush 8, 2) := by decide +kernel
theorem dX4_init_47 : decode cX4_init 47 = .ok (.newarray .int, 2) := by decide +kernel
theorem dX4_init_49 : decode cX4_init 49 = .ok (.putfield 27, 3) := by decide +kernel
theorem dX4_init_52 : decode cX4_init 52 = .ok (.aload_n 0, 1) := by decide +kernel
theorem dX4_init_53 : decode cX4_init 53 = .ok (.bipush 8, 2) := by decide +kernel
theorem dX4_init_55 : decode cX4_init 55 = .ok (.newarray .int, 2) := by decide +kernel
theorem dX4_init_57 : decode cX4_init 57 = .ok (.putfield 30, 3) := by decide +kernel
theorem dX4_init_60 : decode cX4_init 60 = .ok (.aload_n 0, 1) := by decide +kernel
theorem dX4_init_61 : decode cX4_init 61 = .ok (.iconst 0, 1) := by decide +kernel
theorem dX4_init_62 : decode cX4_init 62 = .ok (.putfield 33, 3) := by decide +kernel
theorem dX4_init_65 : decode cX4_init 65 = .ok (.aload_n 0, 1) := by decide +kernel
theorem dX4_init_66 : decode cX4_init 66 = .ok (.aload_n 1, 1) := by decide +kernel
theorem dX4_init_67 : decode cX4_init 67 = .ok (.putfield 37, 3) := by decide +kernel
theorem dX4_init_70 : decode cX4_init 70 = .ok (.return_, 1) := by decide +kernel
theorem dX4_reckon_0 : decode cX4_reckon 0 = .ok (.aload_n 0, 1) := by decide +kernel
theorem dX4_reckon_1 : decode cX4_reckon 1 = .ok (.invokevirtual 41, 3) := by decide +kernel
theorem dX4_reckon_4 : decode cX4_reckon 4 = .ok (.aload_n 0, 1) := by decide +kernel
theorem dX4_reckon_5 : decode cX4_reckon 5 = .ok (.invokevirtual 44, 3) := by decide +kernel
theorem dX4_reckon_8 : decode cX4_reckon 8 = .ok (.aload_n 0, 1) := by decide +kernel
theorem dX4_reckon_9 : decode cX4_reckon 9 = .ok (.invokevirtual 47, 3) := by decide +kernel
theorem dX4_reckon_12 : decode cX4_reckon 12 = .ok (.aload_n 0, 1) := by decide +kernel
theorem dX4_reckon_13 : decode cX4_reckon 13 = .ok (.invokevirtual 50, 3) := by decide +kernel
theorem dX4_reckon_16 : decode cX4_reckon 16 = .ok (.aload_n 0, 1) := by decide +kernel
theorem dX4_reckon_17 : decode cX4_reckon 17 = .ok (.invokevirtual 53, 3) := by decide +kernel
theorem dX4_reckon_20 : decode cX4_reckon 20 = .ok (.aload_n 0, 1) := by decide +kernel
theorem dX4_reckon_21 : decode cX4_reckon 21 = .ok (.aload_n 0, 1) := by decide +kernel
theorem dX4_reckon_22 : decode cX4_reckon 22 = .ok (.invokevirtual 56, 3) := by decide +kernel
theorem dX4_reckon_25 : decode cX4_reckon 25 = .ok (.putfield 60, 3) := by decide +kernel
theorem dX4_reckon_28 : decode cX4_reckon 28 = .ok (.return_, 1) := by decide +kernel
theorem dX4_rank_0 : decode cX4_rank 0 = .ok (.aload_n 0, 1) := by decide +kernel
theorem dX4_rank_1 : decode cX4_rank 1 = .ok (.getfield 33, 3) := by decide +kernel
theorem dX4_rank_4 : decode cX4_rank 4 = .ok (.aload_n 0, 1) := by decide +kernel
theorem dX4_rank_5 : decode cX4_rank 5 = .ok (.getfield 37, 3) := by decide +kernel
theorem dX4_rank_8 : decode cX4_rank 8 = .ok (.getfield 63, 3) := by decide +kernel
theorem dX4_rank_11 : decode cX4_rank 11 = .ok (.if_icmp .eq 37, 3) := by decide +kernel
theorem dX4_rank_14 : decode cX4_rank 14 = .ok (.aload_n 0, 1) := by decide +kernel
theorem dX4_rank_15 : decode cX4_rank 15 = .ok (.aload_n 0, 1) := by decide +kernel
theorem dX4_rank_16 : decode cX4_rank 16 = .ok (.getfield 37, 3) := by decide +kernel
theorem dX4_rank_19 : decode cX4_rank 19 = .ok (.getfield 63, 3) := by decide +kernel
theorem dX4_rank_22 : decode cX4_rank 22 = .ok (.putfield 33, 3) := by decide +kernel
theorem dX4_rank_25 : decode cX4_rank 25 = .ok (.iconst 0, 1) := by decide +kernel
theorem dX4_rank_26 : decode cX4_rank 26 = .ok (.istore_n 1, 1) := by decide +kernel
theorem dX4_rank_27 : decode cX4_rank 27 = .ok (.iload_n 1, 1) := by decide +kernel
theorem dX4_rank_28 : decode cX4_rank 28 = .ok (.aload_n 0, 1) := by decide +kernel
theorem dX4_rank_29 : decode cX4_rank 29 = .ok (.getfield 33, 3) := by decide +kernel
theorem dX4_rank_32 : decode cX4_rank 32 = .ok (.if_icmp .ge 16, 3) := by decide +kernel
theorem dX4_rank_35 : decode cX4_rank 35 = .ok (.aload_n 0, 1) := by decide +kernel
theorem dX4_rank_36 : decode cX4_rank 36 = .ok (.getfield 9, 3) := by decide +kernel
theorem dX4_rank_39 : decode cX4_rank 39 = .ok (.iload_n 1, 1) := by decide +kernel
theorem dX4_rank_40 : decode cX4_rank 40 = .ok (.iload_n 1, 1) := by decide +kernel
theorem dX4_rank_41 : decode cX4_rank 41 = .ok (.iastore, 1) := by decide +kernel
theorem dX4_rank_42 : decode cX4_rank 42 = .ok (.iinc 1 1, 3) := by decide +kernel
theorem dX4_rank_45 : decode cX4_rank 45 = .ok (.goto (-18), 3) := by decide +kernel
theorem dX4_rank_48 : decode cX4_rank 48 = .ok (.iconst 1, 1) := by decide +kernel
theorem dX4_rank_49 : decode cX4_rank 49 = .ok (.istore_n 1, 1) := by decide +kernel
theorem dX4_rank_50 : decode cX4_rank 50 = .ok (.iload_n 1, 1) := by decide +kernel
theorem dX4_rank_51 : decode cX4_rank 51 = .ok (.aload_n 0, 1) := by decide +kernel
theorem dX4_rank_52 : decode cX4_rank 52 = .ok (.getfield 33, 3) := by decide +kernel
theorem dX4_rank_55 : decode cX4_rank 55 = .ok (.if_icmp .ge 65, 3) := by decide +kernel
theorem dX4_rank_58 : decode cX4_rank 58 = .ok (.aload_n 0, 1) := by decide +kernel
theorem dX4_rank_59 : decode cX4_rank 59 = .ok (.getfield 9, 3) := by decide +kernel
theorem dX4_rank_62 : decode cX4_rank 62 = .ok (.iload_n 1, 1) := by decide +kernel
theorem dX4_rank_63 : decode cX4_rank 63 = .ok (.iaload, 1) := by decide +kernel
theorem dX4_rank_64 : decode cX4_rank 64 = .ok (.istore_n 2, 1) := by decide +kernel
theorem dX4_rank_65 : decode cX4_rank 65 = .ok (.iload_n 1, 1) := by decide +kernel
theorem dX4_rank_66 : decode cX4_rank 66 = .ok (.istore_n 3, 1) := by decide +kernel
theorem dX4_rank_67 : decode cX4_rank 67 = .ok (.iload_n 3, 1) := by decide +kernel
theorem dX4_rank_68 : decode cX4_rank 68 = .ok (.ifCond .le 39, 3) := by decide +kernel
theorem dX4_rank_71 : decode cX4_rank 71 = .ok (.aload_n 0, 1) := by decide +kernel
theorem dX4_rank_72 : decode cX4_rank 72 = .ok (.iload_n 2, 1) := by decide +kernel
theorem dX4_rank_73 : decode cX4_rank 73 = .ok (.aload_n 0, 1) := by decide +kernel
theorem dX4_rank_74 : decode cX4_rank 74 = .ok (.getfield 9, 3) := by decide +kernel
theorem dX4_rank_77 : decode cX4_rank 77 = .ok (.iload_n 3, 1) := by decide +kernel
theorem dX4_rank_78 : decode cX4_rank 78 = .ok (.iconst 1, 1) := by decide +kernel
theorem dX4_rank_79 : decode cX4_rank 79 = .ok (.isub, 1) := by decide +kernel
theorem dX4_rank_80 : decode cX4_rank 80 = .ok (.iaload, 1) := by decide +kernel
theorem dX4_rank_81 : decode cX4_rank 81 = .ok (.invokevirtual 68, 3) := by decide +kernel
theorem dX4_rank_84 : decode cX4_rank 84 = .ok (.ifCond .eq 23, 3) := by decide +kernel
theorem dX4_rank_87 : decode cX4_rank 87 = .ok (.aload_n 0, 1) := by decide +kernel
theorem dX4_rank_88 : decode cX4_rank 88 = .ok (.getfield 9, 3) := by decide +kernel
theorem dX4_rank_91 : decode cX4_rank 91 = .ok (.iload_n 3, 1) := by decide +kernel
theorem dX4_rank_92 : decode cX4_rank 92 = .ok (.aload_n 0, 1) := by decide +kernel
theorem dX4_rank_93 : decode cX4_rank 93 = .ok (.getfield 9, 3) := by decide +kernel
theorem dX4_rank_96 : decode cX4_rank 96 = .ok (.iload_n 3, 1) := by decide +kernel
theorem dX4_rank_97 : decode cX4_rank 97 = .ok (.iconst 1, 1) := by decide +kernel
theorem dX4_rank_98 : decode cX4_rank 98 = .ok (.isub, 1) := by decide +kernel
theorem dX4_rank_99 : decode cX4_rank 99 = .ok (.iaload, 1) := by decide +kernel
theorem dX4_rank_100 : decode cX4_rank 100 = .ok (.iastore, 1) := by decide +kernel
theorem dX4_rank_101 : decode cX4_rank 101 = .ok (.iinc 3 (-1), 3) := by decide +kernel
theorem dX4_rank_104 : decode cX4_rank 104 = .ok (.goto (-37), 3) := by decide +kernel
theorem dX4_rank_107 : decode cX4_rank 107 = .ok (.aload_n 0, 1) := by decide +kernel
theorem dX4_rank_108 : decode cX4_rank 108 = .ok (.getfield 9, 3) := by decide +kernel
theorem dX4_rank_111 : decode cX4_rank 111 = .ok (.iload_n 3, 1) := by decide +kernel
theorem dX4_rank_112 : decode cX4_rank 112 = .ok (.iload_n 2, 1) := by decide +kernel
theorem dX4_rank_113 : decode cX4_rank 113 = .ok (.iastore, 1) := by decide +kernel
theorem dX4_rank_114 : decode cX4_rank 114 = .ok (.iinc 1 1, 3) := by decide +kernel
theorem dX4_rank_117 : decode cX4_rank 117 = .ok (.goto (-67), 3) := by decide +kernel
theorem dX4_rank_120 : decode cX4_rank 120 = .ok (.return_, 1) := by decide +kernel
theorem dX4_isAhead_0 : decode cX4_isAhead 0 = .ok (.aload_n 0, 1) := by decide +kernel
theorem dX4_isAhead_1 : decode cX4_isAhead 1 = .ok (.getfield 37, 3) := by decide +kernel
theorem dX4_isAhead_4 : decode cX4_isAhead 4 = .ok (.getfield 72, 3) := by decide +kernel
theorem dX4_isAhead_7 : decode cX4_isAhead 7 = .ok (.iload_n 1, 1) := by decide +kernel
theorem dX4_isAhead_8 : decode cX4_isAhead 8 = .ok (.iaload, 1) := by decide +kernel
theorem dX4_isAhead_9 : decode cX4_isAhead 9 = .ok (.istore_n 3, 1) := by decide +kernel
theorem dX4_isAhead_10 : decode cX4_isAhead 10 = .ok (.aload_n 0, 1) := by decide +kernel
theorem dX4_isAhead_11 : decode cX4_isAhead 11 = .ok (.getfield 37, 3) := by decide +kernel
theorem dX4_isAhead_14 : decode cX4_isAhead 14 = .ok (.getfield 72, 3) := by decide +kernel
theorem dX4_isAhead_17 : decode cX4_isAhead 17 = .ok (.iload_n 2, 1) := by decide +kernel
theorem dX4_isAhead_18 : decode cX4_isAhead 18 = .ok (.iaload, 1) := by decide +kernel
theorem dX4_isAhead_19 : decode cX4_isAhead 19 = .ok (.istore 4, 2) := by decide +kernel
theorem dX4_isAhead_21 : decode cX4_isAhead 21 = .ok (.iload_n 3, 1) := by decide +kernel
theorem dX4_isAhead_22 : decode cX4_isAhead 22 = .ok (.iload 4, 2) := by decide +kernel
theorem dX4_isAhead_24 : decode cX4_isAhead 24 = .ok (.if_icmp .lt 14, 3) := by decide +kernel
theorem dX4_isAhead_27 : decode cX4_isAhead 27 = .ok (.iload_n 3, 1) := by decide +kernel
theorem dX4_isAhead_28 : decode cX4_isAhead 28 = .ok (.iload 4, 2) := by decide +kernel
theorem dX4_isAhead_30 : decode cX4_isAhead 30 = .ok (.if_icmp .ne 12, 3) := by decide +kernel
theorem dX4_isAhead_33 : decode cX4_isAhead 33 = .ok (.iload_n 1, 1) := by decide +kernel
theorem dX4_isAhead_34 : decode cX4_isAhead 34 = .ok (.iload_n 2, 1) := by decide +kernel
theorem dX4_isAhead_35 : decode cX4_isAhead 35 = .ok (.if_icmp .ge 7, 3) := by decide +kernel
theorem dX4_isAhead_38 : decode cX4_isAhead 38 = .ok (.iconst 1, 1) := by decide +kernel
theorem dX4_isAhead_39 : decode cX4_isAhead 39 = .ok (.goto 4, 3) := by decide +kernel
theorem dX4_isAhead_42 : decode cX4_isAhead 42 = .ok (.iconst 0, 1) := by decide +kernel
theorem dX4_isAhead_43 : decode cX4_isAhead 43 = .ok (.ireturn, 1) := by decide +kernel
theorem dX4_openRooms_0 : decode cX4_openRooms 0 = .ok (.aload_n 0, 1) := by decide +kernel
theorem dX4_openRooms_1 : decode cX4_openRooms 1 = .ok (.getfield 37, 3) := by decide +kernel
theorem dX4_openRooms_4 : decode cX4_openRooms 4 = .ok (.getfield 75, 3) := by decide +kernel
theorem dX4_openRooms_7 : decode cX4_openRooms 7 = .ok (.iconst 1, 1) := by decide +kernel
theorem dX4_openRooms_8 : decode cX4_openRooms 8 = .ok (.iaload, 1) := by decide +kernel
theorem dX4_openRooms_9 : decode cX4_openRooms 9 = .ok (.aload_n 0, 1) := by decide +kernel
theorem dX4_openRooms_10 : decode cX4_openRooms 10 = .ok (.getfield 37, 3) := by decide +kernel
theorem dX4_openRooms_13 : decode cX4_openRooms 13 = .ok (.getfield 75, 3) := by decide +kernel
theorem dX4_openRooms_16 : decode cX4_openRooms 16 = .ok (.iconst 0, 1) := by decide +kernel
theorem dX4_openRooms_17 : decode cX4_openRooms 17 = .ok (.iaload, 1) := by decide +kernel
theorem dX4_openRooms_18 : decode cX4_openRooms 18 = .ok (.imul, 1) := by decide +kernel
theorem dX4_openRooms_19 : decode cX4_openRooms 19 = .ok (.bipush 100, 2) := by decide +kernel
theorem dX4_openRooms_21 : decode cX4_openRooms 21 = .ok (.idiv, 1) := by decide +kernel
theorem dX4_openRooms_22 : decode cX4_openRooms 22 = .ok (.istore_n 1, 1) := by decide +kernel
theorem dX4_openRooms_23 : decode cX4_openRooms 23 = .ok (.iconst 0, 1) := by decide +kernel
theorem dX4_openRooms_24 : decode cX4_openRooms 24 = .ok (.istore_n 2, 1) := by decide +kernel
theorem dX4_openRooms_25 : decode cX4_openRooms 25 = .ok (.iload_n 2, 1) := by decide +kernel
theorem dX4_openRooms_26 : decode cX4_openRooms 26 = .ok (.bipush 8, 2) := by decide +kernel
theorem dX4_openRooms_28 : decode cX4_openRooms 28 = .ok (.if_icmp .ge 16, 3) := by decide +kernel
theorem dX4_openRooms_31 : decode cX4_openRooms 31 = .ok (.aload_n 0, 1) := by decide +kernel
theorem dX4_openRooms_32 : decode cX4_openRooms 32 = .ok (.getfield 27, 3) := by decide +kernel
theorem dX4_openRooms_35 : decode cX4_openRooms 35 = .ok (.iload_n 2, 1) := by decide +kernel
theorem dX4_openRooms_36 : decode cX4_openRooms 36 = .ok (.iload_n 1, 1) := by decide +kernel
theorem dX4_openRooms_37 : decode cX4_openRooms 37 = .ok (.iastore, 1) := by decide +kernel
theorem dX4_openRooms_38 : decode cX4_openRooms 38 = .ok (.iinc 2 1, 3) := by decide +kernel
theorem dX4_openRooms_41 : decode cX4_openRooms 41 = .ok (.goto (-16), 3) := by decide +kernel
theorem dX4_openRooms_44 : decode cX4_openRooms 44 = .ok (.iconst 0, 1) := by decide +kernel
theorem dX4_openRooms_45 : decode cX4_openRooms 45 = .ok (.istore_n 2, 1) := by decide +kernel
theorem dX4_openRooms_46 : decode cX4_openRooms 46 = .ok (.iload_n 2, 1) := by decide +kernel
theorem dX4_openRooms_47 : decode cX4_openRooms 47 = .ok (.bipush 8, 2) := by decide +kernel
theorem dX4_openRooms_49 : decode cX4_openRooms 49 = .ok (.if_icmp .ge 35, 3) := by decide +kernel
theorem dX4_openRooms_52 : decode cX4_openRooms 52 = .ok (.aload_n 0, 1) := by decide +kernel
theorem dX4_openRooms_53 : decode cX4_openRooms 53 = .ok (.getfield 27, 3) := by decide +kernel
theorem dX4_openRooms_56 : decode cX4_openRooms 56 = .ok (.aload_n 0, 1) := by decide +kernel
theorem dX4_openRooms_57 : decode cX4_openRooms 57 = .ok (.getfield 37, 3) := by decide +kernel
theorem dX4_openRooms_60 : decode cX4_openRooms 60 = .ok (.getfield 78, 3) := by decide +kernel
theorem dX4_openRooms_63 : decode cX4_openRooms 63 = .ok (.iload_n 2, 1) := by decide +kernel
theorem dX4_openRooms_64 : decode cX4_openRooms 64 = .ok (.iaload, 1) := by decide +kernel
theorem dX4_openRooms_65 : decode cX4_openRooms 65 = .ok (.dup2, 1) := by decide +kernel
theorem dX4_openRooms_66 : decode cX4_openRooms 66 = .ok (.iaload, 1) := by decide +kernel
theorem dX4_openRooms_67 : decode cX4_openRooms 67 = .ok (.aload_n 0, 1) := by decide +kernel
theorem dX4_openRooms_68 : decode cX4_openRooms 68 = .ok (.getfield 37, 3) := by decide +kernel
theorem dX4_openRooms_71 : decode cX4_openRooms 71 = .ok (.getfield 81, 3) := by decide +kernel
theorem dX4_openRooms_74 : decode cX4_openRooms 74 = .ok (.iload_n 2, 1) := by decide +kernel
theorem dX4_openRooms_75 : decode cX4_openRooms 75 = .ok (.iaload, 1) := by decide +kernel
theorem dX4_openRooms_76 : decode cX4_openRooms 76 = .ok (.isub, 1) := by decide +kernel
theorem dX4_openRooms_77 : decode cX4_openRooms 77 = .ok (.iastore, 1) := by decide +kernel
theorem dX4_openRooms_78 : decode cX4_openRooms 78 = .ok (.iinc 2 1, 3) := by decide +kernel
theorem dX4_openRooms_81 : decode cX4_openRooms 81 = .ok (.goto (-35), 3) := by decide +kernel
theorem dX4_openRooms_84 : decode cX4_openRooms 84 = .ok (.iconst 0, 1) := by decide +kernel
theorem dX4_openRooms_85 : decode cX4_openRooms 85 = .ok (.istore_n 2, 1) := by decide +kernel
theorem dX4_openRooms_86 : decode cX4_openRooms 86 = .ok (.iload_n 2, 1) := by decide +kernel
theorem dX4_openRooms_87 : decode cX4_openRooms 87 = .ok (.bipush 8, 2) := by decide +kernel
theorem dX4_openRooms_89 : decode cX4_openRooms 89 = .ok (.if_icmp .ge 37, 3) := by decide +kernel
theorem dX4_openRooms_92 : decode cX4_openRooms 92 = .ok (.aload_n 0, 1) := by decide +kernel
theorem dX4_openRooms_93 : decode cX4_openRooms 93 = .ok (.getfield 27, 3) := by decide +kernel
theorem dX4_openRooms_96 : decode cX4_openRooms 96 = .ok (.iload_n 2, 1) := by decide +kernel
theorem dX4_openRooms_97 : decode cX4_openRooms 97 = .ok (.iconst 0, 1) := by decide +kernel
theorem dX4_openRooms_98 : decode cX4_openRooms 98 = .ok (.aload_n 0, 1) := by decide +kernel
theorem dX4_openRooms_99 : decode cX4_openRooms 99 = .ok (.getfield 27, 3) := by decide +kernel
theorem dX4_openRooms_102 : decode cX4_openRooms 102 = .ok (.iload_n 2, 1) := by decide +kernel
theorem dX4_openRooms_103 : decode cX4_openRooms 103 = .ok (.iaload, 1) := by decide +kernel
theorem dX4_openRooms_104 : decode cX4_openRooms 104 = .ok (.invokestatic 84, 3) := by decide +kernel
theorem dX4_openRooms_107 : decode cX4_openRooms 107 = .ok (.iastore, 1) := by decide +kernel
theorem dX4_openRooms_108 : decode cX4_openRooms 108 = .ok (.aload_n 0, 1) := by decide +kernel
theorem dX4_openRooms_109 : decode cX4_openRooms 109 = .ok (.getfield 30, 3) := by decide +kernel
theorem dX4_openRooms_112 : decode cX4_openRooms 112 = .ok (.iload_n 2, 1) := by decide +kernel
theorem dX4_openRooms_113 : decode cX4_openRooms 113 = .ok (.aload_n 0, 1) := by decide +kernel
theorem dX4_openRooms_114 : decode cX4_openRooms 114 = .ok (.getfield 27, 3) := by decide +kernel
theorem dX4_openRooms_117 : decode cX4_openRooms 117 = .ok (.iload_n 2, 1) := by decide +kernel
theorem dX4_openRooms_118 : decode cX4_openRooms 118 = .ok (.iaload, 1) := by decide +kernel
theorem dX4_openRooms_119 : decode cX4_openRooms 119 = .ok (.iastore, 1) := by decide +kernel
theorem dX4_openRooms_120 : decode cX4_openRooms 120 = .ok (.iinc 2 1, 3) := by decide +kernel
theorem dX4_openRooms_123 : decode cX4_openRooms 123 = .ok (.goto (-37), 3) := by decide +kernel
theorem dX4_openRooms_126 : decode cX4_openRooms 126 = .ok (.return_, 1) := by decide +kernel
theorem dX4_admit_0 : decode cX4_admit 0 = .ok (.aload_n 0, 1) := by decide +kernel
theorem dX4_admit_1 : decode cX4_admit 1 = .ok (.iconst 0, 1) := by decide +kernel
theorem dX4_admit_2 : decode cX4_admit 2 = .ok (.putfield 90, 3) := by decide +kernel
theorem dX4_admit_5 : decode cX4_admit 5 = .ok (.aload_n 0, 1) := by decide +kernel
theorem dX4_admit_6 : decode cX4_admit 6 = .ok (.iconst 0, 1) := by decide +kernel
theorem dX4_admit_7 : decode cX4_admit 7 = .ok (.putfield 93, 3) := by decide +kernel
theorem dX4_admit_10 : decode cX4_admit 10 = .ok (.iconst 0, 1) := by decide +kernel
theorem dX4_admit_11 : decode cX4_admit 11 = .ok (.istore_n 1, 1) := by decide +kernel
theorem dX4_admit_12 : decode cX4_admit 12 = .ok (.iload_n 1, 1) := by decide +kernel
theorem dX4_admit_13 : decode cX4_admit 13 = .ok (.aload_n 0, 1) := by decide +kernel
theorem dX4_admit_14 : decode cX4_admit 14 = .ok (.getfield 33, 3) := by decide +kernel
theorem dX4_admit_17 : decode cX4_admit 17 = .ok (.if_icmp .ge 67, 3) := by decide +kernel
theorem dX4_admit_20 : decode cX4_admit 20 = .ok (.aload_n 0, 1) := by decide +kernel
theorem dX4_admit_21 : decode cX4_admit 21 = .ok (.getfield 9, 3) := by decide +kernel
theorem dX4_admit_24 : decode cX4_admit 24 = .ok (.iload_n 1, 1) := by decide +kernel
theorem dX4_admit_25 : decode cX4_admit 25 = .ok (.iaload, 1) := by decide +kernel
theorem dX4_admit_26 : decode cX4_admit 26 = .ok (.istore_n 2, 1) := by decide +kernel
theorem dX4_admit_27 : decode cX4_admit 27 = .ok (.aload_n 0, 1) := by decide +kernel
theorem dX4_admit_28 : decode cX4_admit 28 = .ok (.iload_n 2, 1) := by decide +kernel
theorem dX4_admit_29 : decode cX4_admit 29 = .ok (.invokevirtual 96, 3) := by decide +kernel
theorem dX4_admit_32 : decode cX4_admit 32 = .ok (.aload_n 0, 1) := by decide +kernel
theorem dX4_admit_33 : decode cX4_admit 33 = .ok (.getfield 37, 3) := by decide +kernel
theorem dX4_admit_36 : decode cX4_admit 36 = .ok (.getfield 72, 3) := by decide +kernel
theorem dX4_admit_39 : decode cX4_admit 39 = .ok (.iload_n 2, 1) := by decide +kernel
theorem dX4_admit_40 : decode cX4_admit 40 = .ok (.iaload, 1) := by decide +kernel
theorem dX4_admit_41 : decode cX4_admit 41 = .ok (.iconst (-1), 1) := by decide +kernel
theorem dX4_admit_42 : decode cX4_admit 42 = .ok (.if_icmp .ne 21, 3) := by decide +kernel
theorem dX4_admit_45 : decode cX4_admit 45 = .ok (.aload_n 0, 1) := by decide +kernel
theorem dX4_admit_46 : decode cX4_admit 46 = .ok (.dup, 1) := by decide +kernel
theorem dX4_admit_47 : decode cX4_admit 47 = .ok (.getfield 90, 3) := by decide +kernel
theorem dX4_admit_50 : decode cX4_admit 50 = .ok (.aload_n 0, 1) := by decide +kernel
theorem dX4_admit_51 : decode cX4_admit 51 = .ok (.getfield 15, 3) := by decide +kernel
theorem dX4_admit_54 : decode cX4_admit 54 = .ok (.iload_n 2, 1) := by decide +kernel
theorem dX4_admit_55 : decode cX4_admit 55 = .ok (.iaload, 1) := by decide +kernel
theorem dX4_admit_56 : decode cX4_admit 56 = .ok (.iadd, 1) := by decide +kernel
theorem dX4_admit_57 : decode cX4_admit 57 = .ok (.putfield 90, 3) := by decide +kernel
theorem dX4_admit_60 : decode cX4_admit 60 = .ok (.goto 18, 3) := by decide +kernel
theorem dX4_admit_63 : decode cX4_admit 63 = .ok (.aload_n 0, 1) := by decide +kernel
theorem dX4_admit_64 : decode cX4_admit 64 = .ok (.dup, 1) := by decide +kernel
theorem dX4_admit_65 : decode cX4_admit 65 = .ok (.getfield 93, 3) := by decide +kernel
theorem dX4_admit_68 : decode cX4_admit 68 = .ok (.aload_n 0, 1) := by decide +kernel
theorem dX4_admit_69 : decode cX4_admit 69 = .ok (.getfield 15, 3) := by decide +kernel
theorem dX4_admit_72 : decode cX4_admit 72 = .ok (.iload_n 2, 1) := by decide +kernel
theorem dX4_admit_73 : decode cX4_admit 73 = .ok (.iaload, 1) := by decide +kernel
theorem dX4_admit_74 : decode cX4_admit 74 = .ok (.iadd, 1) := by decide +kernel
theorem dX4_admit_75 : decode cX4_admit 75 = .ok (.putfield 93, 3) := by decide +kernel
theorem dX4_admit_78 : decode cX4_admit 78 = .ok (.iinc 1 1, 3) := by decide +kernel
theorem dX4_admit_81 : decode cX4_admit 81 = .ok (.goto (-69), 3) := by decide +kernel
theorem dX4_admit_84 : decode cX4_admit 84 = .ok (.return_, 1) := by decide +kernel
theorem dX4_admitOne_0 : decode cX4_admitOne 0 = .ok (.aload_n 0, 1) := by decide +kernel
theorem dX4_admitOne_1 : decode cX4_admitOne 1 = .ok (.aload_n 0, 1) := by decide +kernel
theorem dX4_admitOne_2 : decode cX4_admitOne 2 = .ok (.getfield 37, 3) := by decide +kernel
theorem dX4_admitOne_5 : decode cX4_admitOne 5 = .ok (.getfield 72, 3) := by decide +kernel
theorem dX4_admitOne_8 : decode cX4_admitOne 8 = .ok (.iload_n 1, 1) := by decide +kernel
theorem dX4_admitOne_9 : decode cX4_admitOne 9 = .ok (.iaload, 1) := by decide +kernel
theorem dX4_admitOne_10 : decode cX4_admitOne 10 = .ok (.invokevirtual 100, 3) := by decide +kernel
theorem dX4_admitOne_13 : decode cX4_admitOne 13 = .ok (.ifCond .eq 18, 3) := by decide +kernel
theorem dX4_admitOne_16 : decode cX4_admitOne 16 = .ok (.aload_n 0, 1) := by decide +kernel
theorem dX4_admitOne_17 : decode cX4_admitOne 17 = .ok (.getfield 15, 3) := by decide +kernel
theorem dX4_admitOne_20 : decode cX4_admitOne 20 = .ok (.iload_n 1, 1) := by decide +kernel
theorem dX4_admitOne_21 : decode cX4_admitOne 21 = .ok (.iconst 0, 1) := by decide +kernel
theorem dX4_admitOne_22 : decode cX4_admitOne 22 = .ok (.iastore, 1) := by decide +kernel
theorem dX4_admitOne_23 : decode cX4_admitOne 23 = .ok (.aload_n 0, 1) := by decide +kernel
theorem dX4_admitOne_24 : decode cX4_admitOne 24 = .ok (.getfield 18, 3) := by decide +kernel
theorem dX4_admitOne_27 : decode cX4_admitOne 27 = .ok (.iload_n 1, 1) := by decide +kernel
theorem dX4_admitOne_28 : decode cX4_admitOne 28 = .ok (.iconst 1, 1) := by decide +kernel
theorem dX4_admitOne_29 : decode cX4_admitOne 29 = .ok (.iastore, 1) := by decide +kernel
theorem dX4_admitOne_30 : decode cX4_admitOne 30 = .ok (.return_, 1) := by decide +kernel
theorem dX4_admitOne_31 : decode cX4_admitOne 31 = .ok (.aload_n 0, 1) := by decide +kernel
theorem dX4_admitOne_32 : decode cX4_admitOne 32 = .ok (.getfield 37, 3) := by decide +kernel
theorem dX4_admitOne_35 : decode cX4_admitOne 35 = .ok (.getfield 78, 3) := by decide +kernel
theorem dX4_admitOne_38 : decode cX4_admitOne 38 = .ok (.aload_n 0, 1) := by decide +kernel
theorem dX4_admitOne_39 : decode cX4_admitOne 39 = .ok (.getfield 37, 3) := by decide +kernel
theorem dX4_admitOne_42 : decode cX4_admitOne 42 = .ok (.getfield 104, 3) := by decide +kernel
theorem dX4_admitOne_45 : decode cX4_admitOne 45 = .ok (.iload_n 1, 1) := by decide +kernel
theorem dX4_admitOne_46 : decode cX4_admitOne 46 = .ok (.iaload, 1) := by decide +kernel
theorem dX4_admitOne_47 : decode cX4_admitOne 47 = .ok (.iaload, 1) := by decide +kernel
theorem dX4_admitOne_48 : decode cX4_admitOne 48 = .ok (.istore_n 2, 1) := by decide +kernel
theorem dX4_admitOne_49 : decode cX4_admitOne 49 = .ok (.aload_n 0, 1) := by decide +kernel
theorem dX4_admitOne_50 : decode cX4_admitOne 50 = .ok (.getfield 15, 3) := by decide +kernel
theorem dX4_admitOne_53 : decode cX4_admitOne 53 = .ok (.iload_n 1, 1) := by decide +kernel
theorem dX4_admitOne_54 : decode cX4_admitOne 54 = .ok (.aload_n 0, 1) := by decide +kernel
theorem dX4_admitOne_55 : decode cX4_admitOne 55 = .ok (.getfield 37, 3) := by decide +kernel
theorem dX4_admitOne_58 : decode cX4_admitOne 58 = .ok (.getfield 107, 3) := by decide +kernel
theorem dX4_admitOne_61 : decode cX4_admitOne 61 = .ok (.iload_n 1, 1) := by decide +kernel
theorem dX4_admitOne_62 : decode cX4_admitOne 62 = .ok (.iaload, 1) := by decide +kernel
theorem dX4_admitOne_63 : decode cX4_admitOne 63 = .ok (.aload_n 0, 1) := by decide +kernel
theorem dX4_admitOne_64 : decode cX4_admitOne 64 = .ok (.getfield 30, 3) := by decide +kernel
theorem dX4_admitOne_67 : decode cX4_admitOne 67 = .ok (.iload_n 2, 1) := by decide +kernel
theorem dX4_admitOne_68 : decode cX4_admitOne 68 = .ok (.iaload, 1) := by decide +kernel
theorem dX4_admitOne_69 : decode cX4_admitOne 69 = .ok (.invokestatic 110, 3) := by decide +kernel
theorem dX4_admitOne_72 : decode cX4_admitOne 72 = .ok (.iastore, 1) := by decide +kernel
theorem dX4_admitOne_73 : decode cX4_admitOne 73 = .ok (.aload_n 0, 1) := by decide +kernel
theorem dX4_admitOne_74 : decode cX4_admitOne 74 = .ok (.getfield 30, 3) := by decide +kernel
theorem dX4_admitOne_77 : decode cX4_admitOne 77 = .ok (.iload_n 2, 1) := by decide +kernel
theorem dX4_admitOne_78 : decode cX4_admitOne 78 = .ok (.dup2, 1) := by decide +kernel
theorem dX4_admitOne_79 : decode cX4_admitOne 79 = .ok (.iaload, 1) := by decide +kernel
theorem dX4_admitOne_80 : decode cX4_admitOne 80 = .ok (.aload_n 0, 1) := by decide +kernel
theorem dX4_admitOne_81 : decode cX4_admitOne 81 = .ok (.getfield 15, 3) := by decide +kernel
theorem dX4_admitOne_84 : decode cX4_admitOne 84 = .ok (.iload_n 1, 1) := by decide +kernel
theorem dX4_admitOne_85 : decode cX4_admitOne 85 = .ok (.iaload, 1) := by decide +kernel
theorem dX4_admitOne_86 : decode cX4_admitOne 86 = .ok (.isub, 1) := by decide +kernel
theorem dX4_admitOne_87 : decode cX4_admitOne 87 = .ok (.iastore, 1) := by decide +kernel
theorem dX4_admitOne_88 : decode cX4_admitOne 88 = .ok (.aload_n 0, 1) := by decide +kernel
theorem dX4_admitOne_89 : decode cX4_admitOne 89 = .ok (.getfield 18, 3) := by decide +kernel
theorem dX4_admitOne_92 : decode cX4_admitOne 92 = .ok (.iload_n 1, 1) := by decide +kernel
theorem dX4_admitOne_93 : decode cX4_admitOne 93 = .ok (.aload_n 0, 1) := by decide +kernel
theorem dX4_admitOne_94 : decode cX4_admitOne 94 = .ok (.getfield 15, 3) := by decide +kernel
theorem dX4_admitOne_97 : decode cX4_admitOne 97 = .ok (.iload_n 1, 1) := by decide +kernel
theorem dX4_admitOne_98 : decode cX4_admitOne 98 = .ok (.iaload, 1) := by decide +kernel
theorem dX4_admitOne_99 : decode cX4_admitOne 99 = .ok (.aload_n 0, 1) := by decide +kernel
theorem dX4_admitOne_100 : decode cX4_admitOne 100 = .ok (.getfield 37, 3) := by decide +kernel
theorem dX4_admitOne_103 : decode cX4_admitOne 103 = .ok (.getfield 107, 3) := by decide +kernel
theorem dX4_admitOne_106 : decode cX4_admitOne 106 = .ok (.iload_n 1, 1) := by decide +kernel
theorem dX4_admitOne_107 : decode cX4_admitOne 107 = .ok (.iaload, 1) := by decide +kernel
theorem dX4_admitOne_108 : decode cX4_admitOne 108 = .ok (.if_icmp .ge 7, 3) := by decide +kernel
theorem dX4_admitOne_111 : decode cX4_admitOne 111 = .ok (.iconst 2, 1) := by decide +kernel
theorem dX4_admitOne_112 : decode cX4_admitOne 112 = .ok (.goto 4, 3) := by decide +kernel
theorem dX4_admitOne_115 : decode cX4_admitOne 115 = .ok (.iconst 0, 1) := by decide +kernel
theorem dX4_admitOne_116 : decode cX4_admitOne 116 = .ok (.iastore, 1) := by decide +kernel
theorem dX4_admitOne_117 : decode cX4_admitOne 117 = .ok (.return_, 1) := by decide +kernel
theorem dX4_isOutOfBounds_0 : decode cX4_isOutOfBounds 0 = .ok (.iload_n 1, 1) := by decide +kernel
theorem dX4_isOutOfBounds_1 : decode cX4_isOutOfBounds 1 = .ok (.iconst (-1), 1) := by decide +kernel
theorem dX4_isOutOfBounds_2 : decode cX4_isOutOfBounds 2 = .ok (.if_icmp .eq 33, 3) := by decide +kernel
theorem dX4_isOutOfBounds_5 : decode cX4_isOutOfBounds 5 = .ok (.iload_n 1, 1) := by decide +kernel
theorem dX4_isOutOfBounds_6 : decode cX4_isOutOfBounds 6 = .ok (.aload_n 0, 1) := by decide +kernel
theorem dX4_isOutOfBounds_7 : decode cX4_isOutOfBounds 7 = .ok (.getfield 37, 3) := by decide +kernel
theorem dX4_isOutOfBounds_10 : decode cX4_isOutOfBounds 10 = .ok (.getfield 75, 3) := by decide +kernel
theorem dX4_isOutOfBounds_13 : decode cX4_isOutOfBounds 13 = .ok (.iconst 3, 1) := by decide +kernel
theorem dX4_isOutOfBounds_14 : decode cX4_isOutOfBounds 14 = .ok (.iaload, 1) := by decide +kernel
theorem dX4_isOutOfBounds_15 : decode cX4_isOutOfBounds 15 = .ok (.if_icmp .lt 16, 3) := by decide +kernel
theorem dX4_isOutOfBounds_18 : decode cX4_isOutOfBounds 18 = .ok (.iload_n 1, 1) := by decide +kernel
theorem dX4_isOutOfBounds_19 : decode cX4_isOutOfBounds 19 = .ok (.aload_n 0, 1) := by decide +kernel
theorem dX4_isOutOfBounds_20 : decode cX4_isOutOfBounds 20 = .ok (.getfield 37, 3) := by decide +kernel
theorem dX4_isOutOfBounds_23 : decode cX4_isOutOfBounds 23 = .ok (.getfield 75, 3) := by decide +kernel
theorem dX4_isOutOfBounds_26 : decode cX4_isOutOfBounds 26 = .ok (.iconst 4, 1) := by decide +kernel
theorem dX4_isOutOfBounds_27 : decode cX4_isOutOfBounds 27 = .ok (.iaload, 1) := by decide +kernel
theorem dX4_isOutOfBounds_28 : decode cX4_isOutOfBounds 28 = .ok (.if_icmp .le 7, 3) := by decide +kernel
theorem dX4_isOutOfBounds_31 : decode cX4_isOutOfBounds 31 = .ok (.iconst 1, 1) := by decide +kernel
theorem dX4_isOutOfBounds_32 : decode cX4_isOutOfBounds 32 = .ok (.goto 4, 3) := by decide +kernel
theorem dX4_isOutOfBounds_35 : decode cX4_isOutOfBounds 35 = .ok (.iconst 0, 1) := by decide +kernel
theorem dX4_isOutOfBounds_36 : decode cX4_isOutOfBounds 36 = .ok (.ireturn, 1) := by decide +kernel
theorem dX4_sellPlain_0 : decode cX4_sellPlain 0 = .ok (.aload_n 0, 1) := by decide +kernel
theorem dX4_sellPlain_1 : decode cX4_sellPlain 1 = .ok (.aload_n 0, 1) := by decide +kernel
theorem dX4_sellPlain_2 : decode cX4_sellPlain 2 = .ok (.getfield 37, 3) := by decide +kernel
theorem dX4_sellPlain_5 : decode cX4_sellPlain 5 = .ok (.getfield 75, 3) := by decide +kernel
theorem dX4_sellPlain_8 : decode cX4_sellPlain 8 = .ok (.iconst 2, 1) := by decide +kernel
theorem dX4_sellPlain_9 : decode cX4_sellPlain 9 = .ok (.iaload, 1) := by decide +kernel
theorem dX4_sellPlain_10 : decode cX4_sellPlain 10 = .ok (.aload_n 0, 1) := by decide +kernel
theorem dX4_sellPlain_11 : decode cX4_sellPlain 11 = .ok (.getfield 37, 3) := by decide +kernel
theorem dX4_sellPlain_14 : decode cX4_sellPlain 14 = .ok (.getfield 75, 3) := by decide +kernel
theorem dX4_sellPlain_17 : decode cX4_sellPlain 17 = .ok (.iconst 0, 1) := by decide +kernel
theorem dX4_sellPlain_18 : decode cX4_sellPlain 18 = .ok (.iaload, 1) := by decide +kernel
theorem dX4_sellPlain_19 : decode cX4_sellPlain 19 = .ok (.imul, 1) := by decide +kernel
theorem dX4_sellPlain_20 : decode cX4_sellPlain 20 = .ok (.bipush 100, 2) := by decide +kernel
theorem dX4_sellPlain_22 : decode cX4_sellPlain 22 = .ok (.idiv, 1) := by decide +kernel
theorem dX4_sellPlain_23 : decode cX4_sellPlain 23 = .ok (.putfield 113, 3) := by decide +kernel
theorem dX4_sellPlain_26 : decode cX4_sellPlain 26 = .ok (.aload_n 0, 1) := by decide +kernel
theorem dX4_sellPlain_27 : decode cX4_sellPlain 27 = .ok (.aload_n 0, 1) := by decide +kernel
theorem dX4_sellPlain_28 : decode cX4_sellPlain 28 = .ok (.getfield 113, 3) := by decide +kernel
theorem dX4_sellPlain_31 : decode cX4_sellPlain 31 = .ok (.aload_n 0, 1) := by decide +kernel
theorem dX4_sellPlain_32 : decode cX4_sellPlain 32 = .ok (.getfield 90, 3) := by decide +kernel
theorem dX4_sellPlain_35 : decode cX4_sellPlain 35 = .ok (.invokestatic 110, 3) := by decide +kernel
theorem dX4_sellPlain_38 : decode cX4_sellPlain 38 = .ok (.putfield 116, 3) := by decide +kernel
theorem dX4_sellPlain_41 : decode cX4_sellPlain 41 = .ok (.aload_n 0, 1) := by decide +kernel
theorem dX4_sellPlain_42 : decode cX4_sellPlain 42 = .ok (.iconst (-1), 1) := by decide +kernel
theorem dX4_sellPlain_43 : decode cX4_sellPlain 43 = .ok (.aload_n 0, 1) := by decide +kernel
theorem dX4_sellPlain_44 : decode cX4_sellPlain 44 = .ok (.getfield 113, 3) := by decide +kernel
theorem dX4_sellPlain_47 : decode cX4_sellPlain 47 = .ok (.aload_n 0, 1) := by decide +kernel
theorem dX4_sellPlain_48 : decode cX4_sellPlain 48 = .ok (.getfield 90, 3) := by decide +kernel
theorem dX4_sellPlain_51 : decode cX4_sellPlain 51 = .ok (.invokevirtual 119, 3) := by decide +kernel
theorem dX4_sellPlain_54 : decode cX4_sellPlain 54 = .ok (.aload_n 0, 1) := by decide +kernel
theorem dX4_sellPlain_55 : decode cX4_sellPlain 55 = .ok (.aload_n 0, 1) := by decide +kernel
theorem dX4_sellPlain_56 : decode cX4_sellPlain 56 = .ok (.getfield 37, 3) := by decide +kernel
theorem dX4_sellPlain_59 : decode cX4_sellPlain 59 = .ok (.getfield 75, 3) := by decide +kernel
theorem dX4_sellPlain_62 : decode cX4_sellPlain 62 = .ok (.iconst 0, 1) := by decide +kernel
theorem dX4_sellPlain_63 : decode cX4_sellPlain 63 = .ok (.iaload, 1) := by decide +kernel
theorem dX4_sellPlain_64 : decode cX4_sellPlain 64 = .ok (.aload_n 0, 1) := by decide +kernel
theorem dX4_sellPlain_65 : decode cX4_sellPlain 65 = .ok (.getfield 116, 3) := by decide +kernel
theorem dX4_sellPlain_68 : decode cX4_sellPlain 68 = .ok (.isub, 1) := by decide +kernel
theorem dX4_sellPlain_69 : decode cX4_sellPlain 69 = .ok (.putfield 123, 3) := by decide +kernel
theorem dX4_sellPlain_72 : decode cX4_sellPlain 72 = .ok (.return_, 1) := by decide +kernel
theorem dX4_sellRated_0 : decode cX4_sellRated 0 = .ok (.aload_n 0, 1) := by decide +kernel
theorem dX4_sellRated_1 : decode cX4_sellRated 1 = .ok (.aload_n 0, 1) := by decide +kernel
theorem dX4_sellRated_2 : decode cX4_sellRated 2 = .ok (.invokevirtual 126, 3) := by decide +kernel
theorem dX4_sellRated_5 : decode cX4_sellRated 5 = .ok (.putfield 129, 3) := by decide +kernel
theorem dX4_sellRated_8 : decode cX4_sellRated 8 = .ok (.iconst 0, 1) := by decide +kernel
theorem dX4_sellRated_9 : decode cX4_sellRated 9 = .ok (.istore_n 1, 1) := by decide +kernel
theorem dX4_sellRated_10 : decode cX4_sellRated 10 = .ok (.iconst 0, 1) := by decide +kernel
theorem dX4_sellRated_11 : decode cX4_sellRated 11 = .ok (.istore_n 2, 1) := by decide +kernel
theorem dX4_sellRated_12 : decode cX4_sellRated 12 = .ok (.iconst 0, 1) := by decide +kernel
theorem dX4_sellRated_13 : decode cX4_sellRated 13 = .ok (.istore_n 3, 1) := by decide +kernel
theorem dX4_sellRated_14 : decode cX4_sellRated 14 = .ok (.iload_n 3, 1) := by decide +kernel
theorem dX4_sellRated_15 : decode cX4_sellRated 15 = .ok (.aload_n 0, 1) := by decide +kernel
theorem dX4_sellRated_16 : decode cX4_sellRated 16 = .ok (.getfield 33, 3) := by decide +kernel
theorem dX4_sellRated_19 : decode cX4_sellRated 19 = .ok (.if_icmp .ge 85, 3) := by decide +kernel
theorem dX4_sellRated_22 : decode cX4_sellRated 22 = .ok (.aload_n 0, 1) := by decide +kernel
theorem dX4_sellRated_23 : decode cX4_sellRated 23 = .ok (.getfield 37, 3) := by decide +kernel
theorem dX4_sellRated_26 : decode cX4_sellRated 26 = .ok (.getfield 72, 3) := by decide +kernel
theorem dX4_sellRated_29 : decode cX4_sellRated 29 = .ok (.iload_n 3, 1) := by decide +kernel
theorem dX4_sellRated_30 : decode cX4_sellRated 30 = .ok (.iaload, 1) := by decide +kernel
theorem dX4_sellRated_31 : decode cX4_sellRated 31 = .ok (.istore 4, 2) := by decide +kernel
theorem dX4_sellRated_33 : decode cX4_sellRated 33 = .ok (.iload 4, 2) := by decide +kernel
theorem dX4_sellRated_35 : decode cX4_sellRated 35 = .ok (.iconst (-1), 1) := by decide +kernel
theorem dX4_sellRated_36 : decode cX4_sellRated 36 = .ok (.if_icmp .ne 6, 3) := by decide +kernel
theorem dX4_sellRated_39 : decode cX4_sellRated 39 = .ok (.goto 59, 3) := by decide +kernel
theorem dX4_sellRated_42 : decode cX4_sellRated 42 = .ok (.aload_n 0, 1) := by decide +kernel
theorem dX4_sellRated_43 : decode cX4_sellRated 43 = .ok (.getfield 21, 3) := by decide +kernel
theorem dX4_sellRated_46 : decode cX4_sellRated 46 = .ok (.iload_n 3, 1) := by decide +kernel
theorem dX4_sellRated_47 : decode cX4_sellRated 47 = .ok (.iload 4, 2) := by decide +kernel
theorem dX4_sellRated_49 : decode cX4_sellRated 49 = .ok (.aload_n 0, 1) := by decide +kernel
theorem dX4_sellRated_50 : decode cX4_sellRated 50 = .ok (.getfield 129, 3) := by decide +kernel
theorem dX4_sellRated_53 : decode cX4_sellRated 53 = .ok (.if_icmp .ge 12, 3) := by decide +kernel
theorem dX4_sellRated_56 : decode cX4_sellRated 56 = .ok (.aload_n 0, 1) := by decide +kernel
theorem dX4_sellRated_57 : decode cX4_sellRated 57 = .ok (.getfield 15, 3) := by decide +kernel
theorem dX4_sellRated_60 : decode cX4_sellRated 60 = .ok (.iload_n 3, 1) := by decide +kernel
theorem dX4_sellRated_61 : decode cX4_sellRated 61 = .ok (.iaload, 1) := by decide +kernel
theorem dX4_sellRated_62 : decode cX4_sellRated 62 = .ok (.goto 4, 3) := by decide +kernel
theorem dX4_sellRated_65 : decode cX4_sellRated 65 = .ok (.iconst 0, 1) := by decide +kernel
theorem dX4_sellRated_66 : decode cX4_sellRated 66 = .ok (.iastore, 1) := by decide +kernel
theorem dX4_sellRated_67 : decode cX4_sellRated 67 = .ok (.iload_n 1, 1) := by decide +kernel
theorem dX4_sellRated_68 : decode cX4_sellRated 68 = .ok (.aload_n 0, 1) := by decide +kernel
theorem dX4_sellRated_69 : decode cX4_sellRated 69 = .ok (.getfield 21, 3) := by decide +kernel
theorem dX4_sellRated_72 : decode cX4_sellRated 72 = .ok (.iload_n 3, 1) := by decide +kernel
theorem dX4_sellRated_73 : decode cX4_sellRated 73 = .ok (.iaload, 1) := by decide +kernel
theorem dX4_sellRated_74 : decode cX4_sellRated 74 = .ok (.iadd, 1) := by decide +kernel
theorem dX4_sellRated_75 : decode cX4_sellRated 75 = .ok (.istore_n 1, 1) := by decide +kernel
theorem dX4_sellRated_76 : decode cX4_sellRated 76 = .ok (.iload_n 2, 1) := by decide +kernel
theorem dX4_sellRated_77 : decode cX4_sellRated 77 = .ok (.iload 4, 2) := by decide +kernel
theorem dX4_sellRated_79 : decode cX4_sellRated 79 = .ok (.aload_n 0, 1) := by decide +kernel
theorem dX4_sellRated_80 : decode cX4_sellRated 80 = .ok (.getfield 129, 3) := by decide +kernel
theorem dX4_sellRated_83 : decode cX4_sellRated 83 = .ok (.if_icmp .ne 12, 3) := by decide +kernel
theorem dX4_sellRated_86 : decode cX4_sellRated 86 = .ok (.aload_n 0, 1) := by decide +kernel
theorem dX4_sellRated_87 : decode cX4_sellRated 87 = .ok (.getfield 15, 3) := by decide +kernel
theorem dX4_sellRated_90 : decode cX4_sellRated 90 = .ok (.iload_n 3, 1) := by decide +kernel
theorem dX4_sellRated_91 : decode cX4_sellRated 91 = .ok (.iaload, 1) := by decide +kernel
theorem dX4_sellRated_92 : decode cX4_sellRated 92 = .ok (.goto 4, 3) := by decide +kernel
theorem dX4_sellRated_95 : decode cX4_sellRated 95 = .ok (.iconst 0, 1) := by decide +kernel
theorem dX4_sellRated_96 : decode cX4_sellRated 96 = .ok (.iadd, 1) := by decide +kernel
theorem dX4_sellRated_97 : decode cX4_sellRated 97 = .ok (.istore_n 2, 1) := by decide +kernel
theorem dX4_sellRated_98 : decode cX4_sellRated 98 = .ok (.iinc 3 1, 3) := by decide +kernel
theorem dX4_sellRated_101 : decode cX4_sellRated 101 = .ok (.goto (-87), 3) := by decide +kernel
theorem dX4_sellRated_104 : decode cX4_sellRated 104 = .ok (.aload_n 0, 1) := by decide +kernel
theorem dX4_sellRated_105 : decode cX4_sellRated 105 = .ok (.getfield 123, 3) := by decide +kernel
theorem dX4_sellRated_108 : decode cX4_sellRated 108 = .ok (.iload_n 1, 1) := by decide +kernel
theorem dX4_sellRated_109 : decode cX4_sellRated 109 = .ok (.isub, 1) := by decide +kernel
theorem dX4_sellRated_110 : decode cX4_sellRated 110 = .ok (.istore_n 3, 1) := by decide +kernel
theorem dX4_sellRated_111 : decode cX4_sellRated 111 = .ok (.aload_n 0, 1) := by decide +kernel
theorem dX4_sellRated_112 : decode cX4_sellRated 112 = .ok (.iload_n 3, 1) := by decide +kernel
theorem dX4_sellRated_113 : decode cX4_sellRated 113 = .ok (.iload_n 2, 1) := by decide +kernel
theorem dX4_sellRated_114 : decode cX4_sellRated 114 = .ok (.if_icmp .ge 7, 3) := by decide +kernel
theorem dX4_sellRated_117 : decode cX4_sellRated 117 = .ok (.iconst 1, 1) := by decide +kernel
theorem dX4_sellRated_118 : decode cX4_sellRated 118 = .ok (.goto 4, 3) := by decide +kernel
theorem dX4_sellRated_121 : decode cX4_sellRated 121 = .ok (.iconst 0, 1) := by decide +kernel
theorem dX4_sellRated_122 : decode cX4_sellRated 122 = .ok (.putfield 132, 3) := by decide +kernel
theorem dX4_sellRated_125 : decode cX4_sellRated 125 = .ok (.aload_n 0, 1) := by decide +kernel
theorem dX4_sellRated_126 : decode cX4_sellRated 126 = .ok (.iload_n 1, 1) := by decide +kernel
theorem dX4_sellRated_127 : decode cX4_sellRated 127 = .ok (.iload_n 3, 1) := by decide +kernel
theorem dX4_sellRated_128 : decode cX4_sellRated 128 = .ok (.iload_n 2, 1) := by decide +kernel
theorem dX4_sellRated_129 : decode cX4_sellRated 129 = .ok (.invokestatic 110, 3) := by decide +kernel
theorem dX4_sellRated_132 : decode cX4_sellRated 132 = .ok (.iadd, 1) := by decide +kernel
theorem dX4_sellRated_133 : decode cX4_sellRated 133 = .ok (.putfield 136, 3) := by decide +kernel
theorem dX4_sellRated_136 : decode cX4_sellRated 136 = .ok (.aload_n 0, 1) := by decide +kernel
theorem dX4_sellRated_137 : decode cX4_sellRated 137 = .ok (.aload_n 0, 1) := by decide +kernel
theorem dX4_sellRated_138 : decode cX4_sellRated 138 = .ok (.getfield 129, 3) := by decide +kernel
theorem dX4_sellRated_141 : decode cX4_sellRated 141 = .ok (.iload_n 3, 1) := by decide +kernel
theorem dX4_sellRated_142 : decode cX4_sellRated 142 = .ok (.iload_n 2, 1) := by decide +kernel
theorem dX4_sellRated_143 : decode cX4_sellRated 143 = .ok (.invokevirtual 119, 3) := by decide +kernel
theorem dX4_sellRated_146 : decode cX4_sellRated 146 = .ok (.return_, 1) := by decide +kernel
theorem dX4_findStop_0 : decode cX4_findStop 0 = .ok (.iconst 0, 1) := by decide +kernel
theorem dX4_findStop_1 : decode cX4_findStop 1 = .ok (.istore_n 1, 1) := by decide +kernel
theorem dX4_findStop_2 : decode cX4_findStop 2 = .ok (.bipush (-2), 2) := by decide +kernel
theorem dX4_findStop_4 : decode cX4_findStop 4 = .ok (.istore_n 2, 1) := by decide +kernel
theorem dX4_findStop_5 : decode cX4_findStop 5 = .ok (.iconst 0, 1) := by decide +kernel
theorem dX4_findStop_6 : decode cX4_findStop 6 = .ok (.istore_n 3, 1) := by decide +kernel
theorem dX4_findStop_7 : decode cX4_findStop 7 = .ok (.iload_n 3, 1) := by decide +kernel
theorem dX4_findStop_8 : decode cX4_findStop 8 = .ok (.aload_n 0, 1) := by decide +kernel
theorem dX4_findStop_9 : decode cX4_findStop 9 = .ok (.getfield 33, 3) := by decide +kernel
theorem dX4_findStop_12 : decode cX4_findStop 12 = .ok (.if_icmp .ge 70, 3) := by decide +kernel
theorem dX4_findStop_15 : decode cX4_findStop 15 = .ok (.iload_n 1, 1) := by decide +kernel
theorem dX4_findStop_16 : decode cX4_findStop 16 = .ok (.aload_n 0, 1) := by decide +kernel
theorem dX4_findStop_17 : decode cX4_findStop 17 = .ok (.getfield 123, 3) := by decide +kernel
theorem dX4_findStop_20 : decode cX4_findStop 20 = .ok (.if_icmp .ge 62, 3) := by decide +kernel
theorem dX4_findStop_23 : decode cX4_findStop 23 = .ok (.aload_n 0, 1) := by decide +kernel
theorem dX4_findStop_24 : decode cX4_findStop 24 = .ok (.getfield 9, 3) := by decide +kernel
theorem dX4_findStop_27 : decode cX4_findStop 27 = .ok (.iload_n 3, 1) := by decide +kernel
theorem dX4_findStop_28 : decode cX4_findStop 28 = .ok (.iaload, 1) := by decide +kernel
theorem dX4_findStop_29 : decode cX4_findStop 29 = .ok (.istore 4, 2) := by decide +kernel
theorem dX4_findStop_31 : decode cX4_findStop 31 = .ok (.aload_n 0, 1) := by decide +kernel
theorem dX4_findStop_32 : decode cX4_findStop 32 = .ok (.getfield 37, 3) := by decide +kernel
theorem dX4_findStop_35 : decode cX4_findStop 35 = .ok (.getfield 72, 3) := by decide +kernel
theorem dX4_findStop_38 : decode cX4_findStop 38 = .ok (.iload 4, 2) := by decide +kernel
theorem dX4_findStop_40 : decode cX4_findStop 40 = .ok (.iaload, 1) := by decide +kernel
theorem dX4_findStop_41 : decode cX4_findStop 41 = .ok (.iconst (-1), 1) := by decide +kernel
theorem dX4_findStop_42 : decode cX4_findStop 42 = .ok (.if_icmp .eq 34, 3) := by decide +kernel
theorem dX4_findStop_45 : decode cX4_findStop 45 = .ok (.aload_n 0, 1) := by decide +kernel
theorem dX4_findStop_46 : decode cX4_findStop 46 = .ok (.getfield 15, 3) := by decide +kernel
theorem dX4_findStop_49 : decode cX4_findStop 49 = .ok (.iload 4, 2) := by decide +kernel
theorem dX4_findStop_51 : decode cX4_findStop 51 = .ok (.iaload, 1) := by decide +kernel
theorem dX4_findStop_52 : decode cX4_findStop 52 = .ok (.ifCond .le 24, 3) := by decide +kernel
theorem dX4_findStop_55 : decode cX4_findStop 55 = .ok (.iload_n 1, 1) := by decide +kernel
theorem dX4_findStop_56 : decode cX4_findStop 56 = .ok (.aload_n 0, 1) := by decide +kernel
theorem dX4_findStop_57 : decode cX4_findStop 57 = .ok (.getfield 15, 3) := by decide +kernel
theorem dX4_findStop_60 : decode cX4_findStop 60 = .ok (.iload 4, 2) := by decide +kernel
theorem dX4_findStop_62 : decode cX4_findStop 62 = .ok (.iaload, 1) := by decide +kernel
theorem dX4_findStop_63 : decode cX4_findStop 63 = .ok (.iadd, 1) := by decide +kernel
theorem dX4_findStop_64 : decode cX4_findStop 64 = .ok (.istore_n 1, 1) := by decide +kernel
theorem dX4_findStop_65 : decode cX4_findStop 65 = .ok (.aload_n 0, 1) := by decide +kernel
theorem dX4_findStop_66 : decode cX4_findStop 66 = .ok (.getfield 37, 3) := by decide +kernel
theorem dX4_findStop_69 : decode cX4_findStop 69 = .ok (.getfield 72, 3) := by decide +kernel
theorem dX4_findStop_72 : decode cX4_findStop 72 = .ok (.iload 4, 2) := by decide +kernel
theorem dX4_findStop_74 : decode cX4_findStop 74 = .ok (.iaload, 1) := by decide +kernel
theorem dX4_findStop_75 : decode cX4_findStop 75 = .ok (.istore_n 2, 1) := by decide +kernel
theorem dX4_findStop_76 : decode cX4_findStop 76 = .ok (.iinc 3 1, 3) := by decide +kernel
theorem dX4_findStop_79 : decode cX4_findStop 79 = .ok (.goto (-72), 3) := by decide +kernel
theorem dX4_findStop_82 : decode cX4_findStop 82 = .ok (.iload_n 2, 1) := by decide +kernel
theorem dX4_findStop_83 : decode cX4_findStop 83 = .ok (.ireturn, 1) := by decide +kernel
theorem dX4_sellAt_0 : decode cX4_sellAt 0 = .ok (.iload_n 3, 1) := by decide +kernel
theorem dX4_sellAt_1 : decode cX4_sellAt 1 = .ok (.iload_n 2, 1) := by decide +kernel
theorem dX4_sellAt_2 : decode cX4_sellAt 2 = .ok (.if_icmp .le 15, 3) := by decide +kernel
theorem dX4_sellAt_5 : decode cX4_sellAt 5 = .ok (.iload_n 3, 1) := by decide +kernel
theorem dX4_sellAt_6 : decode cX4_sellAt 6 = .ok (.ifCond .le 11, 3) := by decide +kernel
theorem dX4_sellAt_9 : decode cX4_sellAt 9 = .ok (.aload_n 0, 1) := by decide +kernel
theorem dX4_sellAt_10 : decode cX4_sellAt 10 = .ok (.iload_n 1, 1) := by decide +kernel
theorem dX4_sellAt_11 : decode cX4_sellAt 11 = .ok (.iload_n 2, 1) := by decide +kernel
theorem dX4_sellAt_12 : decode cX4_sellAt 12 = .ok (.iload_n 3, 1) := by decide +kernel
theorem dX4_sellAt_13 : decode cX4_sellAt 13 = .ok (.invokevirtual 139, 3) := by decide +kernel
theorem dX4_sellAt_16 : decode cX4_sellAt 16 = .ok (.return_, 1) := by decide +kernel
theorem dX4_sellAt_17 : decode cX4_sellAt 17 = .ok (.iconst 0, 1) := by decide +kernel
theorem dX4_sellAt_18 : decode cX4_sellAt 18 = .ok (.istore 4, 2) := by decide +kernel
theorem dX4_sellAt_20 : decode cX4_sellAt 20 = .ok (.iload 4, 2) := by decide +kernel
theorem dX4_sellAt_22 : decode cX4_sellAt 22 = .ok (.aload_n 0, 1) := by decide +kernel
theorem dX4_sellAt_23 : decode cX4_sellAt 23 = .ok (.getfield 33, 3) := by decide +kernel
theorem dX4_sellAt_26 : decode cX4_sellAt 26 = .ok (.if_icmp .ge 37, 3) := by decide +kernel
theorem dX4_sellAt_29 : decode cX4_sellAt 29 = .ok (.aload_n 0, 1) := by decide +kernel
theorem dX4_sellAt_30 : decode cX4_sellAt 30 = .ok (.getfield 37, 3) := by decide +kernel
theorem dX4_sellAt_33 : decode cX4_sellAt 33 = .ok (.getfield 72, 3) := by decide +kernel
theorem dX4_sellAt_36 : decode cX4_sellAt 36 = .ok (.iload 4, 2) := by decide +kernel
theorem dX4_sellAt_38 : decode cX4_sellAt 38 = .ok (.iaload, 1) := by decide +kernel
theorem dX4_sellAt_39 : decode cX4_sellAt 39 = .ok (.iload_n 1, 1) := by decide +kernel
theorem dX4_sellAt_40 : decode cX4_sellAt 40 = .ok (.if_icmp .ne 17, 3) := by decide +kernel
theorem dX4_sellAt_43 : decode cX4_sellAt 43 = .ok (.aload_n 0, 1) := by decide +kernel
theorem dX4_sellAt_44 : decode cX4_sellAt 44 = .ok (.getfield 21, 3) := by decide +kernel
theorem dX4_sellAt_47 : decode cX4_sellAt 47 = .ok (.iload 4, 2) := by decide +kernel
theorem dX4_sellAt_49 : decode cX4_sellAt 49 = .ok (.aload_n 0, 1) := by decide +kernel
theorem dX4_sellAt_50 : decode cX4_sellAt 50 = .ok (.getfield 15, 3) := by decide +kernel
theorem dX4_sellAt_53 : decode cX4_sellAt 53 = .ok (.iload 4, 2) := by decide +kernel
theorem dX4_sellAt_55 : decode cX4_sellAt 55 = .ok (.iaload, 1) := by decide +kernel
theorem dX4_sellAt_56 : decode cX4_sellAt 56 = .ok (.iastore, 1) := by decide +kernel
theorem dX4_sellAt_57 : decode cX4_sellAt 57 = .ok (.iinc 4 1, 3) := by decide +kernel
theorem dX4_sellAt_60 : decode cX4_sellAt 60 = .ok (.goto (-40), 3) := by decide +kernel
theorem dX4_sellAt_63 : decode cX4_sellAt 63 = .ok (.return_, 1) := by decide +kernel
theorem dX4_sellPart_0 : decode cX4_sellPart 0 = .ok (.iload_n 2, 1) := by decide +kernel
theorem dX4_sellPart_1 : decode cX4_sellPart 1 = .ok (.istore 4, 2) := by decide +kernel
theorem dX4_sellPart_3 : decode cX4_sellPart 3 = .ok (.iconst 0, 1) := by decide +kernel
theorem dX4_sellPart_4 : decode cX4_sellPart 4 = .ok (.istore 5, 2) := by decide +kernel
theorem dX4_sellPart_6 : decode cX4_sellPart 6 = .ok (.iload 5, 2) := by decide +kernel
theorem dX4_sellPart_8 : decode cX4_sellPart 8 = .ok (.aload_n 0, 1) := by decide +kernel
theorem dX4_sellPart_9 : decode cX4_sellPart 9 = .ok (.getfield 33, 3) := by decide +kernel
theorem dX4_sellPart_12 : decode cX4_sellPart 12 = .ok (.if_icmp .ge 80, 3) := by decide +kernel
theorem dX4_sellPart_15 : decode cX4_sellPart 15 = .ok (.aload_n 0, 1) := by decide +kernel
theorem dX4_sellPart_16 : decode cX4_sellPart 16 = .ok (.getfield 24, 3) := by decide +kernel
theorem dX4_sellPart_19 : decode cX4_sellPart 19 = .ok (.iload 5, 2) := by decide +kernel
theorem dX4_sellPart_21 : decode cX4_sellPart 21 = .ok (.iconst 0, 1) := by decide +kernel
theorem dX4_sellPart_22 : decode cX4_sellPart 22 = .ok (.iastore, 1) := by decide +kernel
theorem dX4_sellPart_23 : decode cX4_sellPart 23 = .ok (.aload_n 0, 1) := by decide +kernel
theorem dX4_sellPart_24 : decode cX4_sellPart 24 = .ok (.getfield 37, 3) := by decide +kernel
theorem dX4_sellPart_27 : decode cX4_sellPart 27 = .ok (.getfield 72, 3) := by decide +kernel
theorem dX4_sellPart_30 : decode cX4_sellPart 30 = .ok (.iload 5, 2) := by decide +kernel
theorem dX4_sellPart_32 : decode cX4_sellPart 32 = .ok (.iaload, 1) := by decide +kernel
theorem dX4_sellPart_33 : decode cX4_sellPart 33 = .ok (.iload_n 1, 1) := by decide +kernel
theorem dX4_sellPart_34 : decode cX4_sellPart 34 = .ok (.if_icmp .ne 52, 3) := by decide +kernel
theorem dX4_sellPart_37 : decode cX4_sellPart 37 = .ok (.iload_n 3, 1) := by decide +kernel
theorem dX4_sellPart_38 : decode cX4_sellPart 38 = .ok (.ifCond .le 48, 3) := by decide +kernel
theorem dX4_sellPart_41 : decode cX4_sellPart 41 = .ok (.aload_n 0, 1) := by decide +kernel
theorem dX4_sellPart_42 : decode cX4_sellPart 42 = .ok (.getfield 15, 3) := by decide +kernel
theorem dX4_sellPart_45 : decode cX4_sellPart 45 = .ok (.iload 5, 2) := by decide +kernel
theorem dX4_sellPart_47 : decode cX4_sellPart 47 = .ok (.iaload, 1) := by decide +kernel
theorem dX4_sellPart_48 : decode cX4_sellPart 48 = .ok (.iload_n 2, 1) := by decide +kernel
theorem dX4_sellPart_49 : decode cX4_sellPart 49 = .ok (.imul, 1) := by decide +kernel
theorem dX4_sellPart_50 : decode cX4_sellPart 50 = .ok (.istore 6, 2) := by decide +kernel
theorem dX4_sellPart_52 : decode cX4_sellPart 52 = .ok (.aload_n 0, 1) := by decide +kernel
theorem dX4_sellPart_53 : decode cX4_sellPart 53 = .ok (.getfield 21, 3) := by decide +kernel
theorem dX4_sellPart_56 : decode cX4_sellPart 56 = .ok (.iload 5, 2) := by decide +kernel
theorem dX4_sellPart_58 : decode cX4_sellPart 58 = .ok (.iload 6, 2) := by decide +kernel
theorem dX4_sellPart_60 : decode cX4_sellPart 60 = .ok (.iload_n 3, 1) := by decide +kernel
theorem dX4_sellPart_61 : decode cX4_sellPart 61 = .ok (.idiv, 1) := by decide +kernel
theorem dX4_sellPart_62 : decode cX4_sellPart 62 = .ok (.iastore, 1) := by decide +kernel
theorem dX4_sellPart_63 : decode cX4_sellPart 63 = .ok (.aload_n 0, 1) := by decide +kernel
theorem dX4_sellPart_64 : decode cX4_sellPart 64 = .ok (.getfield 24, 3) := by decide +kernel
theorem dX4_sellPart_67 : decode cX4_sellPart 67 = .ok (.iload 5, 2) := by decide +kernel
theorem dX4_sellPart_69 : decode cX4_sellPart 69 = .ok (.iload 6, 2) := by decide +kernel
theorem dX4_sellPart_71 : decode cX4_sellPart 71 = .ok (.iload_n 3, 1) := by decide +kernel
theorem dX4_sellPart_72 : decode cX4_sellPart 72 = .ok (.irem, 1) := by decide +kernel
theorem dX4_sellPart_73 : decode cX4_sellPart 73 = .ok (.iastore, 1) := by decide +kernel
theorem dX4_sellPart_74 : decode cX4_sellPart 74 = .ok (.iload 4, 2) := by decide +kernel
theorem dX4_sellPart_76 : decode cX4_sellPart 76 = .ok (.aload_n 0, 1) := by decide +kernel
theorem dX4_sellPart_77 : decode cX4_sellPart 77 = .ok (.getfield 21, 3) := by decide +kernel
theorem dX4_sellPart_80 : decode cX4_sellPart 80 = .ok (.iload 5, 2) := by decide +kernel
theorem dX4_sellPart_82 : decode cX4_sellPart 82 = .ok (.iaload, 1) := by decide +kernel
theorem dX4_sellPart_83 : decode cX4_sellPart 83 = .ok (.isub, 1) := by decide +kernel
theorem dX4_sellPart_84 : decode cX4_sellPart 84 = .ok (.istore 4, 2) := by decide +kernel
theorem dX4_sellPart_86 : decode cX4_sellPart 86 = .ok (.iinc 5 1, 3) := by decide +kernel
theorem dX4_sellPart_89 : decode cX4_sellPart 89 = .ok (.goto (-83), 3) := by decide +kernel
theorem dX4_sellPart_92 : decode cX4_sellPart 92 = .ok (.iconst 0, 1) := by decide +kernel
theorem dX4_sellPart_93 : decode cX4_sellPart 93 = .ok (.istore 5, 2) := by decide +kernel
theorem dX4_sellPart_95 : decode cX4_sellPart 95 = .ok (.iload 5, 2) := by decide +kernel
theorem dX4_sellPart_97 : decode cX4_sellPart 97 = .ok (.iload 4, 2) := by decide +kernel
theorem dX4_sellPart_99 : decode cX4_sellPart 99 = .ok (.if_icmp .ge 22, 3) := by decide +kernel
theorem dX4_sellPart_102 : decode cX4_sellPart 102 = .ok (.iload 5, 2) := by decide +kernel
theorem dX4_sellPart_104 : decode cX4_sellPart 104 = .ok (.aload_n 0, 1) := by decide +kernel
theorem dX4_sellPart_105 : decode cX4_sellPart 105 = .ok (.getfield 33, 3) := by decide +kernel
theorem dX4_sellPart_108 : decode cX4_sellPart 108 = .ok (.if_icmp .ge 13, 3) := by decide +kernel
theorem dX4_sellPart_111 : decode cX4_sellPart 111 = .ok (.aload_n 0, 1) := by decide +kernel
theorem dX4_sellPart_112 : decode cX4_sellPart 112 = .ok (.invokevirtual 142, 3) := by decide +kernel
theorem dX4_sellPart_115 : decode cX4_sellPart 115 = .ok (.iinc 5 1, 3) := by decide +kernel
theorem dX4_sellPart_118 : decode cX4_sellPart 118 = .ok (.goto (-23), 3) := by decide +kernel
theorem dX4_sellPart_121 : decode cX4_sellPart 121 = .ok (.return_, 1) := by decide +kernel
theorem dX4_giveOneMore_0 : decode cX4_giveOneMore 0 = .ok (.iconst (-1), 1) := by decide +kernel
theorem dX4_giveOneMore_1 : decode cX4_giveOneMore 1 = .ok (.istore_n 1, 1) := by decide +kernel
theorem dX4_giveOneMore_2 : decode cX4_giveOneMore 2 = .ok (.iconst 0, 1) := by decide +kernel
theorem dX4_giveOneMore_3 : decode cX4_giveOneMore 3 = .ok (.istore_n 2, 1) := by decide +kernel
theorem dX4_giveOneMore_4 : decode cX4_giveOneMore 4 = .ok (.iconst 0, 1) := by decide +kernel
theorem dX4_giveOneMore_5 : decode cX4_giveOneMore 5 = .ok (.istore_n 3, 1) := by decide +kernel
theorem dX4_giveOneMore_6 : decode cX4_giveOneMore 6 = .ok (.iload_n 3, 1) := by decide +kernel
theorem dX4_giveOneMore_7 : decode cX4_giveOneMore 7 = .ok (.aload_n 0, 1) := by decide +kernel
theorem dX4_giveOneMore_8 : decode cX4_giveOneMore 8 = .ok (.getfield 33, 3) := by decide +kernel
theorem dX4_giveOneMore_11 : decode cX4_giveOneMore 11 = .ok (.if_icmp .ge 28, 3) := by decide +kernel
theorem dX4_giveOneMore_14 : decode cX4_giveOneMore 14 = .ok (.aload_n 0, 1) := by decide +kernel
theorem dX4_giveOneMore_15 : decode cX4_giveOneMore 15 = .ok (.getfield 24, 3) := by decide +kernel
theorem dX4_giveOneMore_18 : decode cX4_giveOneMore 18 = .ok (.iload_n 3, 1) := by decide +kernel
theorem dX4_giveOneMore_19 : decode cX4_giveOneMore 19 = .ok (.iaload, 1) := by decide +kernel
theorem dX4_giveOneMore_20 : decode cX4_giveOneMore 20 = .ok (.iload_n 2, 1) := by decide +kernel
theorem dX4_giveOneMore_21 : decode cX4_giveOneMore 21 = .ok (.if_icmp .le 12, 3) := by decide +kernel
theorem dX4_giveOneMore_24 : decode cX4_giveOneMore 24 = .ok (.aload_n 0, 1) := by decide +kernel
theorem dX4_giveOneMore_25 : decode cX4_giveOneMore 25 = .ok (.getfield 24, 3) := by decide +kernel
theorem dX4_giveOneMore_28 : decode cX4_giveOneMore 28 = .ok (.iload_n 3, 1) := by decide +kernel
theorem dX4_giveOneMore_29 : decode cX4_giveOneMore 29 = .ok (.iaload, 1) := by decide +kernel
theorem dX4_giveOneMore_30 : decode cX4_giveOneMore 30 = .ok (.istore_n 2, 1) := by decide +kernel
theorem dX4_giveOneMore_31 : decode cX4_giveOneMore 31 = .ok (.iload_n 3, 1) := by decide +kernel
theorem dX4_giveOneMore_32 : decode cX4_giveOneMore 32 = .ok (.istore_n 1, 1) := by decide +kernel
theorem dX4_giveOneMore_33 : decode cX4_giveOneMore 33 = .ok (.iinc 3 1, 3) := by decide +kernel
theorem dX4_giveOneMore_36 : decode cX4_giveOneMore 36 = .ok (.goto (-30), 3) := by decide +kernel
theorem dX4_giveOneMore_39 : decode cX4_giveOneMore 39 = .ok (.iload_n 1, 1) := by decide +kernel
theorem dX4_giveOneMore_40 : decode cX4_giveOneMore 40 = .ok (.ifCond .lt 20, 3) := by decide +kernel
theorem dX4_giveOneMore_43 : decode cX4_giveOneMore 43 = .ok (.aload_n 0, 1) := by decide +kernel
theorem dX4_giveOneMore_44 : decode cX4_giveOneMore 44 = .ok (.getfield 21, 3) := by decide +kernel
theorem dX4_giveOneMore_47 : decode cX4_giveOneMore 47 = .ok (.iload_n 1, 1) := by decide +kernel
theorem dX4_giveOneMore_48 : decode cX4_giveOneMore 48 = .ok (.dup2, 1) := by decide +kernel
theorem dX4_giveOneMore_49 : decode cX4_giveOneMore 49 = .ok (.iaload, 1) := by decide +kernel
theorem dX4_giveOneMore_50 : decode cX4_giveOneMore 50 = .ok (.iconst 1, 1) := by decide +kernel
theorem dX4_giveOneMore_51 : decode cX4_giveOneMore 51 = .ok (.iadd, 1) := by decide +kernel
theorem dX4_giveOneMore_52 : decode cX4_giveOneMore 52 = .ok (.iastore, 1) := by decide +kernel
theorem dX4_giveOneMore_53 : decode cX4_giveOneMore 53 = .ok (.aload_n 0, 1) := by decide +kernel
theorem dX4_giveOneMore_54 : decode cX4_giveOneMore 54 = .ok (.getfield 24, 3) := by decide +kernel
theorem dX4_giveOneMore_57 : decode cX4_giveOneMore 57 = .ok (.iload_n 1, 1) := by decide +kernel
theorem dX4_giveOneMore_58 : decode cX4_giveOneMore 58 = .ok (.iconst 0, 1) := by decide +kernel
theorem dX4_giveOneMore_59 : decode cX4_giveOneMore 59 = .ok (.iastore, 1) := by decide +kernel
theorem dX4_giveOneMore_60 : decode cX4_giveOneMore 60 = .ok (.return_, 1) := by decide +kernel
theorem dX4_averageRate_0 : decode cX4_averageRate 0 = .ok (.aload_n 0, 1) := by decide +kernel
theorem dX4_averageRate_1 : decode cX4_averageRate 1 = .ok (.getfield 136, 3) := by decide +kernel
theorem dX4_averageRate_4 : decode cX4_averageRate 4 = .ok (.iconst 1, 1) := by decide +kernel
theorem dX4_averageRate_5 : decode cX4_averageRate 5 = .ok (.if_icmp .ge 13, 3) := by decide +kernel
theorem dX4_averageRate_8 : decode cX4_averageRate 8 = .ok (.aload_n 0, 1) := by decide +kernel
theorem dX4_averageRate_9 : decode cX4_averageRate 9 = .ok (.getfield 37, 3) := by decide +kernel
theorem dX4_averageRate_12 : decode cX4_averageRate 12 = .ok (.getfield 75, 3) := by decide +kernel
theorem dX4_averageRate_15 : decode cX4_averageRate 15 = .ok (.iconst 3, 1) := by decide +kernel
theorem dX4_averageRate_16 : decode cX4_averageRate 16 = .ok (.iaload, 1) := by decide +kernel
theorem dX4_averageRate_17 : decode cX4_averageRate 17 = .ok (.ireturn, 1) := by decide +kernel
theorem dX4_averageRate_18 : decode cX4_averageRate 18 = .ok (.iconst 0, 1) := by decide +kernel
theorem dX4_averageRate_19 : decode cX4_averageRate 19 = .ok (.istore_n 1, 1) := by decide +kernel
theorem dX4_averageRate_20 : decode cX4_averageRate 20 = .ok (.iconst 0, 1) := by decide +kernel
theorem dX4_averageRate_21 : decode cX4_averageRate 21 = .ok (.istore_n 2, 1) := by decide +kernel
theorem dX4_averageRate_22 : decode cX4_averageRate 22 = .ok (.iload_n 2, 1) := by decide +kernel
theorem dX4_averageRate_23 : decode cX4_averageRate 23 = .ok (.aload_n 0, 1) := by decide +kernel
theorem dX4_averageRate_24 : decode cX4_averageRate 24 = .ok (.getfield 33, 3) := by decide +kernel
theorem dX4_averageRate_27 : decode cX4_averageRate 27 = .ok (.if_icmp .ge 41, 3) := by decide +kernel
theorem dX4_averageRate_30 : decode cX4_averageRate 30 = .ok (.aload_n 0, 1) := by decide +kernel
theorem dX4_averageRate_31 : decode cX4_averageRate 31 = .ok (.getfield 37, 3) := by decide +kernel
theorem dX4_averageRate_34 : decode cX4_averageRate 34 = .ok (.getfield 72, 3) := by decide +kernel
theorem dX4_averageRate_37 : decode cX4_averageRate 37 = .ok (.iload_n 2, 1) := by decide +kernel
theorem dX4_averageRate_38 : decode cX4_averageRate 38 = .ok (.iaload, 1) := by decide +kernel
theorem dX4_averageRate_39 : decode cX4_averageRate 39 = .ok (.iconst (-1), 1) := by decide +kernel
theorem dX4_averageRate_40 : decode cX4_averageRate 40 = .ok (.if_icmp .eq 22, 3) := by decide +kernel
theorem dX4_averageRate_43 : decode cX4_averageRate 43 = .ok (.iload_n 1, 1) := by decide +kernel
theorem dX4_averageRate_44 : decode cX4_averageRate 44 = .ok (.aload_n 0, 1) := by decide +kernel
theorem dX4_averageRate_45 : decode cX4_averageRate 45 = .ok (.getfield 37, 3) := by decide +kernel
theorem dX4_averageRate_48 : decode cX4_averageRate 48 = .ok (.getfield 72, 3) := by decide +kernel
theorem dX4_averageRate_51 : decode cX4_averageRate 51 = .ok (.iload_n 2, 1) := by decide +kernel
theorem dX4_averageRate_52 : decode cX4_averageRate 52 = .ok (.iaload, 1) := by decide +kernel
theorem dX4_averageRate_53 : decode cX4_averageRate 53 = .ok (.aload_n 0, 1) := by decide +kernel
theorem dX4_averageRate_54 : decode cX4_averageRate 54 = .ok (.getfield 21, 3) := by decide +kernel
theorem dX4_averageRate_57 : decode cX4_averageRate 57 = .ok (.iload_n 2, 1) := by decide +kernel
theorem dX4_averageRate_58 : decode cX4_averageRate 58 = .ok (.iaload, 1) := by decide +kernel
theorem dX4_averageRate_59 : decode cX4_averageRate 59 = .ok (.imul, 1) := by decide +kernel
theorem dX4_averageRate_60 : decode cX4_averageRate 60 = .ok (.iadd, 1) := by decide +kernel
theorem dX4_averageRate_61 : decode cX4_averageRate 61 = .ok (.istore_n 1, 1) := by decide +kernel
theorem dX4_averageRate_62 : decode cX4_averageRate 62 = .ok (.iinc 2 1, 3) := by decide +kernel
theorem dX4_averageRate_65 : decode cX4_averageRate 65 = .ok (.goto (-43), 3) := by decide +kernel
theorem dX4_averageRate_68 : decode cX4_averageRate 68 = .ok (.iload_n 1, 1) := by decide +kernel
theorem dX4_averageRate_69 : decode cX4_averageRate 69 = .ok (.aload_n 0, 1) := by decide +kernel
theorem dX4_averageRate_70 : decode cX4_averageRate 70 = .ok (.getfield 136, 3) := by decide +kernel
theorem dX4_averageRate_73 : decode cX4_averageRate 73 = .ok (.idiv, 1) := by decide +kernel
theorem dX4_averageRate_74 : decode cX4_averageRate 74 = .ok (.ireturn, 1) := by decide +kernel
theorem dX4_soldInAll_0 : decode cX4_soldInAll 0 = .ok (.aload_n 0, 1) := by decide +kernel
theorem dX4_soldInAll_1 : decode cX4_soldInAll 1 = .ok (.getfield 116, 3) := by decide +kernel
theorem dX4_soldInAll_4 : decode cX4_soldInAll 4 = .ok (.aload_n 0, 1) := by decide +kernel
theorem dX4_soldInAll_5 : decode cX4_soldInAll 5 = .ok (.getfield 136, 3) := by decide +kernel
theorem dX4_soldInAll_8 : decode cX4_soldInAll 8 = .ok (.iadd, 1) := by decide +kernel
theorem dX4_soldInAll_9 : decode cX4_soldInAll 9 = .ok (.ireturn, 1) := by decide +kernel
theorem dX4_soldTo_0 : decode cX4_soldTo 0 = .ok (.aload_n 0, 1) := by decide +kernel
theorem dX4_soldTo_1 : decode cX4_soldTo 1 = .ok (.getfield 21, 3) := by decide +kernel
theorem dX4_soldTo_4 : decode cX4_soldTo 4 = .ok (.aload_n 0, 1) := by decide +kernel
theorem dX4_soldTo_5 : decode cX4_soldTo 5 = .ok (.getfield 37, 3) := by decide +kernel
theorem dX4_soldTo_8 : decode cX4_soldTo 8 = .ok (.getfield 104, 3) := by decide +kernel
theorem dX4_soldTo_11 : decode cX4_soldTo 11 = .ok (.iload_n 1, 1) := by decide +kernel
theorem dX4_soldTo_12 : decode cX4_soldTo 12 = .ok (.aload_n 0, 1) := by decide +kernel
theorem dX4_soldTo_13 : decode cX4_soldTo 13 = .ok (.getfield 33, 3) := by decide +kernel
theorem dX4_soldTo_16 : decode cX4_soldTo 16 = .ok (.invokestatic 145, 3) := by decide +kernel
theorem dX4_soldTo_19 : decode cX4_soldTo 19 = .ok (.ireturn, 1) := by decide +kernel
theorem dX4_soldUnder_0 : decode cX4_soldUnder 0 = .ok (.iconst 0, 1) := by decide +kernel
theorem dX4_soldUnder_1 : decode cX4_soldUnder 1 = .ok (.istore_n 2, 1) := by decide +kernel
theorem dX4_soldUnder_2 : decode cX4_soldUnder 2 = .ok (.iconst 0, 1) := by decide +kernel
theorem dX4_soldUnder_3 : decode cX4_soldUnder 3 = .ok (.istore_n 3, 1) := by decide +kernel
theorem dX4_soldUnder_4 : decode cX4_soldUnder 4 = .ok (.iload_n 3, 1) := by decide +kernel
theorem dX4_soldUnder_5 : decode cX4_soldUnder 5 = .ok (.aload_n 0, 1) := by decide +kernel
theorem dX4_soldUnder_6 : decode cX4_soldUnder 6 = .ok (.getfield 33, 3) := by decide +kernel
theorem dX4_soldUnder_9 : decode cX4_soldUnder 9 = .ok (.if_icmp .ge 39, 3) := by decide +kernel
theorem dX4_soldUnder_12 : decode cX4_soldUnder 12 = .ok (.aload_n 0, 1) := by decide +kernel
theorem dX4_soldUnder_13 : decode cX4_soldUnder 13 = .ok (.getfield 37, 3) := by decide +kernel
theorem dX4_soldUnder_16 : decode cX4_soldUnder 16 = .ok (.getfield 78, 3) := by decide +kernel
theorem dX4_soldUnder_19 : decode cX4_soldUnder 19 = .ok (.aload_n 0, 1) := by decide +kernel
theorem dX4_soldUnder_20 : decode cX4_soldUnder 20 = .ok (.getfield 37, 3) := by decide +kernel
theorem dX4_soldUnder_23 : decode cX4_soldUnder 23 = .ok (.getfield 104, 3) := by decide +kernel
theorem dX4_soldUnder_26 : decode cX4_soldUnder 26 = .ok (.iload_n 3, 1) := by decide +kernel
theorem dX4_soldUnder_27 : decode cX4_soldUnder 27 = .ok (.iaload, 1) := by decide +kernel
theorem dX4_soldUnder_28 : decode cX4_soldUnder 28 = .ok (.iaload, 1) := by decide +kernel
theorem dX4_soldUnder_29 : decode cX4_soldUnder 29 = .ok (.iload_n 1, 1) := by decide +kernel
theorem dX4_soldUnder_30 : decode cX4_soldUnder 30 = .ok (.if_icmp .ne 12, 3) := by decide +kernel
theorem dX4_soldUnder_33 : decode cX4_soldUnder 33 = .ok (.iload_n 2, 1) := by decide +kernel
theorem dX4_soldUnder_34 : decode cX4_soldUnder 34 = .ok (.aload_n 0, 1) := by decide +kernel
theorem dX4_soldUnder_35 : decode cX4_soldUnder 35 = .ok (.getfield 21, 3) := by decide +kernel
theorem dX4_soldUnder_38 : decode cX4_soldUnder 38 = .ok (.iload_n 3, 1) := by decide +kernel
theorem dX4_soldUnder_39 : decode cX4_soldUnder 39 = .ok (.iaload, 1) := by decide +kernel
theorem dX4_soldUnder_40 : decode cX4_soldUnder 40 = .ok (.iadd, 1) := by decide +kernel
theorem dX4_soldUnder_41 : decode cX4_soldUnder 41 = .ok (.istore_n 2, 1) := by decide +kernel
theorem dX4_soldUnder_42 : decode cX4_soldUnder 42 = .ok (.iinc 3 1, 3) := by decide +kernel
theorem dX4_soldUnder_45 : decode cX4_soldUnder 45 = .ok (.goto (-41), 3) := by decide +kernel
theorem dX4_soldUnder_48 : decode cX4_soldUnder 48 = .ok (.iload_n 2, 1) := by decide +kernel
theorem dX4_soldUnder_49 : decode cX4_soldUnder 49 = .ok (.ireturn, 1) := by decide +kernel
theorem dX4_soldAtRate_0 : decode cX4_soldAtRate 0 = .ok (.aload_n 0, 1) := by decide +kernel
theorem dX4_soldAtRate_1 : decode cX4_soldAtRate 1 = .ok (.getfield 21, 3) := by decide +kernel
theorem dX4_soldAtRate_4 : decode cX4_soldAtRate 4 = .ok (.aload_n 0, 1) := by decide +kernel
theorem dX4_soldAtRate_5 : decode cX4_soldAtRate 5 = .ok (.getfield 37, 3) := by decide +kernel
theorem dX4_soldAtRate_8 : decode cX4_soldAtRate 8 = .ok (.getfield 72, 3) := by decide +kernel
theorem dX4_soldAtRate_11 : decode cX4_soldAtRate 11 = .ok (.iload_n 1, 1) := by decide +kernel
theorem dX4_soldAtRate_12 : decode cX4_soldAtRate 12 = .ok (.aload_n 0, 1) := by decide +kernel
theorem dX4_soldAtRate_13 : decode cX4_soldAtRate 13 = .ok (.getfield 33, 3) := by decide +kernel
theorem dX4_soldAtRate_16 : decode cX4_soldAtRate 16 = .ok (.invokestatic 145, 3) := by decide +kernel
theorem dX4_soldAtRate_19 : decode cX4_soldAtRate 19 = .ok (.ireturn, 1) := by decide +kernel
theorem dX4_admittedOf_0 : decode cX4_admittedOf 0 = .ok (.aload_n 0, 1) := by decide +kernel
theorem dX4_admittedOf_1 : decode cX4_admittedOf 1 = .ok (.getfield 15, 3) := by decide +kernel
theorem dX4_admittedOf_4 : decode cX4_admittedOf 4 = .ok (.aload_n 0, 1) := by decide +kernel
theorem dX4_admittedOf_5 : decode cX4_admittedOf 5 = .ok (.getfield 37, 3) := by decide +kernel
theorem dX4_admittedOf_8 : decode cX4_admittedOf 8 = .ok (.getfield 104, 3) := by decide +kernel
theorem dX4_admittedOf_11 : decode cX4_admittedOf 11 = .ok (.iload_n 1, 1) := by decide +kernel
theorem dX4_admittedOf_12 : decode cX4_admittedOf 12 = .ok (.aload_n 0, 1) := by decide +kernel
theorem dX4_admittedOf_13 : decode cX4_admittedOf 13 = .ok (.getfield 33, 3) := by decide +kernel
theorem dX4_admittedOf_16 : decode cX4_admittedOf 16 = .ok (.invokestatic 145, 3) := by decide +kernel
theorem dX4_admittedOf_19 : decode cX4_admittedOf 19 = .ok (.ireturn, 1) := by decide +kernel
theorem dX4_admittedAt_0 : decode cX4_admittedAt 0 = .ok (.aload_n 0, 1) := by decide +kernel
theorem dX4_admittedAt_1 : decode cX4_admittedAt 1 = .ok (.getfield 15, 3) := by decide +kernel
theorem dX4_admittedAt_4 : decode cX4_admittedAt 4 = .ok (.aload_n 0, 1) := by decide +kernel
theorem dX4_admittedAt_5 : decode cX4_admittedAt 5 = .ok (.getfield 37, 3) := by decide +kernel
theorem dX4_admittedAt_8 : decode cX4_admittedAt 8 = .ok (.getfield 72, 3) := by decide +kernel
theorem dX4_admittedAt_11 : decode cX4_admittedAt 11 = .ok (.iload_n 1, 1) := by decide +kernel
theorem dX4_admittedAt_12 : decode cX4_admittedAt 12 = .ok (.aload_n 0, 1) := by decide +kernel
theorem dX4_admittedAt_13 : decode cX4_admittedAt 13 = .ok (.getfield 33, 3) := by decide +kernel
theorem dX4_admittedAt_16 : decode cX4_admittedAt 16 = .ok (.invokestatic 145, 3) := by decide +kernel
theorem dX4_admittedAt_19 : decode cX4_admittedAt 19 = .ok (.ireturn, 1) := by decide +kernel
theorem dX4_admittedUpTo_0 : decode cX4_admittedUpTo 0 = .ok (.iconst 0, 1) := by decide +kernel
theorem dX4_admittedUpTo_1 : decode cX4_admittedUpTo 1 = .ok (.istore_n 2, 1) := by decide +kernel
theorem dX4_admittedUpTo_2 : decode cX4_admittedUpTo 2 = .ok (.iconst 0, 1) := by decide +kernel
theorem dX4_admittedUpTo_3 : decode cX4_admittedUpTo 3 = .ok (.istore_n 3, 1) := by decide +kernel
theorem dX4_admittedUpTo_4 : decode cX4_admittedUpTo 4 = .ok (.iload_n 3, 1) := by decide +kernel
theorem dX4_admittedUpTo_5 : decode cX4_admittedUpTo 5 = .ok (.aload_n 0, 1) := by decide +kernel
theorem dX4_admittedUpTo_6 : decode cX4_admittedUpTo 6 = .ok (.getfield 33, 3) := by decide +kernel
theorem dX4_admittedUpTo_9 : decode cX4_admittedUpTo 9 = .ok (.if_icmp .ge 44, 3) := by decide +kernel
theorem dX4_admittedUpTo_12 : decode cX4_admittedUpTo 12 = .ok (.aload_n 0, 1) := by decide +kernel
theorem dX4_admittedUpTo_13 : decode cX4_admittedUpTo 13 = .ok (.getfield 37, 3) := by decide +kernel
theorem dX4_admittedUpTo_16 : decode cX4_admittedUpTo 16 = .ok (.getfield 72, 3) := by decide +kernel
theorem dX4_admittedUpTo_19 : decode cX4_admittedUpTo 19 = .ok (.iload_n 3, 1) := by decide +kernel
theorem dX4_admittedUpTo_20 : decode cX4_admittedUpTo 20 = .ok (.iaload, 1) := by decide +kernel
theorem dX4_admittedUpTo_21 : decode cX4_admittedUpTo 21 = .ok (.iconst (-1), 1) := by decide +kernel
theorem dX4_admittedUpTo_22 : decode cX4_admittedUpTo 22 = .ok (.if_icmp .eq 25, 3) := by decide +kernel
theorem dX4_admittedUpTo_25 : decode cX4_admittedUpTo 25 = .ok (.aload_n 0, 1) := by decide +kernel
theorem dX4_admittedUpTo_26 : decode cX4_admittedUpTo 26 = .ok (.getfield 37, 3) := by decide +kernel
theorem dX4_admittedUpTo_29 : decode cX4_admittedUpTo 29 = .ok (.getfield 72, 3) := by decide +kernel
theorem dX4_admittedUpTo_32 : decode cX4_admittedUpTo 32 = .ok (.iload_n 3, 1) := by decide +kernel
theorem dX4_admittedUpTo_33 : decode cX4_admittedUpTo 33 = .ok (.iaload, 1) := by decide +kernel
theorem dX4_admittedUpTo_34 : decode cX4_admittedUpTo 34 = .ok (.iload_n 1, 1) := by decide +kernel
theorem dX4_admittedUpTo_35 : decode cX4_admittedUpTo 35 = .ok (.if_icmp .gt 12, 3) := by decide +kernel
theorem dX4_admittedUpTo_38 : decode cX4_admittedUpTo 38 = .ok (.iload_n 2, 1) := by decide +kernel
theorem dX4_admittedUpTo_39 : decode cX4_admittedUpTo 39 = .ok (.aload_n 0, 1) := by decide +kernel
theorem dX4_admittedUpTo_40 : decode cX4_admittedUpTo 40 = .ok (.getfield 15, 3) := by decide +kernel
theorem dX4_admittedUpTo_43 : decode cX4_admittedUpTo 43 = .ok (.iload_n 3, 1) := by decide +kernel
theorem dX4_admittedUpTo_44 : decode cX4_admittedUpTo 44 = .ok (.iaload, 1) := by decide +kernel
theorem dX4_admittedUpTo_45 : decode cX4_admittedUpTo 45 = .ok (.iadd, 1) := by decide +kernel
theorem dX4_admittedUpTo_46 : decode cX4_admittedUpTo 46 = .ok (.istore_n 2, 1) := by decide +kernel
theorem dX4_admittedUpTo_47 : decode cX4_admittedUpTo 47 = .ok (.iinc 3 1, 3) := by decide +kernel
theorem dX4_admittedUpTo_50 : decode cX4_admittedUpTo 50 = .ok (.goto (-46), 3) := by decide +kernel
theorem dX4_admittedUpTo_53 : decode cX4_admittedUpTo 53 = .ok (.iload_n 2, 1) := by decide +kernel
theorem dX4_admittedUpTo_54 : decode cX4_admittedUpTo 54 = .ok (.ireturn, 1) := by decide +kernel
theorem dX4_bidsAt_0 : decode cX4_bidsAt 0 = .ok (.iconst 0, 1) := by decide +kernel
theorem dX4_bidsAt_1 : decode cX4_bidsAt 1 = .ok (.istore_n 2, 1) := by decide +kernel
theorem dX4_bidsAt_2 : decode cX4_bidsAt 2 = .ok (.iconst 0, 1) := by decide +kernel
theorem dX4_bidsAt_3 : decode cX4_bidsAt 3 = .ok (.istore_n 3, 1) := by decide +kernel
theorem dX4_bidsAt_4 : decode cX4_bidsAt 4 = .ok (.iload_n 3, 1) := by decide +kernel
theorem dX4_bidsAt_5 : decode cX4_bidsAt 5 = .ok (.aload_n 0, 1) := by decide +kernel
theorem dX4_bidsAt_6 : decode cX4_bidsAt 6 = .ok (.getfield 33, 3) := by decide +kernel
theorem dX4_bidsAt_9 : decode cX4_bidsAt 9 = .ok (.if_icmp .ge 34, 3) := by decide +kernel
theorem dX4_bidsAt_12 : decode cX4_bidsAt 12 = .ok (.aload_n 0, 1) := by decide +kernel
theorem dX4_bidsAt_13 : decode cX4_bidsAt 13 = .ok (.getfield 37, 3) := by decide +kernel
theorem dX4_bidsAt_16 : decode cX4_bidsAt 16 = .ok (.getfield 72, 3) := by decide +kernel
theorem dX4_bidsAt_19 : decode cX4_bidsAt 19 = .ok (.iload_n 3, 1) := by decide +kernel
theorem dX4_bidsAt_20 : decode cX4_bidsAt 20 = .ok (.iaload, 1) := by decide +kernel
theorem dX4_bidsAt_21 : decode cX4_bidsAt 21 = .ok (.iload_n 1, 1) := by decide +kernel
theorem dX4_bidsAt_22 : decode cX4_bidsAt 22 = .ok (.if_icmp .ne 15, 3) := by decide +kernel
theorem dX4_bidsAt_25 : decode cX4_bidsAt 25 = .ok (.aload_n 0, 1) := by decide +kernel
theorem dX4_bidsAt_26 : decode cX4_bidsAt 26 = .ok (.getfield 15, 3) := by decide +kernel
theorem dX4_bidsAt_29 : decode cX4_bidsAt 29 = .ok (.iload_n 3, 1) := by decide +kernel
theorem dX4_bidsAt_30 : decode cX4_bidsAt 30 = .ok (.iaload, 1) := by decide +kernel
theorem dX4_bidsAt_31 : decode cX4_bidsAt 31 = .ok (.ifCond .le 6, 3) := by decide +kernel
theorem dX4_bidsAt_34 : decode cX4_bidsAt 34 = .ok (.iinc 2 1, 3) := by decide +kernel
theorem dX4_bidsAt_37 : decode cX4_bidsAt 37 = .ok (.iinc 3 1, 3) := by decide +kernel
theorem dX4_bidsAt_40 : decode cX4_bidsAt 40 = .ok (.goto (-36), 3) := by decide +kernel
theorem dX4_bidsAt_43 : decode cX4_bidsAt 43 = .ok (.iload_n 2, 1) := by decide +kernel
theorem dX4_bidsAt_44 : decode cX4_bidsAt 44 = .ok (.ireturn, 1) := by decide +kernel
theorem dX4_bidsWithWhy_0 : decode cX4_bidsWithWhy 0 = .ok (.iconst 0, 1) := by decide +kernel
theorem dX4_bidsWithWhy_1 : decode cX4_bidsWithWhy 1 = .ok (.istore_n 2, 1) := by decide +kernel
theorem dX4_bidsWithWhy_2 : decode cX4_bidsWithWhy 2 = .ok (.iconst 0, 1) := by decide +kernel
theorem dX4_bidsWithWhy_3 : decode cX4_bidsWithWhy 3 = .ok (.istore_n 3, 1) := by decide +kernel
theorem dX4_bidsWithWhy_4 : decode cX4_bidsWithWhy 4 = .ok (.iload_n 3, 1) := by decide +kernel
theorem dX4_bidsWithWhy_5 : decode cX4_bidsWithWhy 5 = .ok (.aload_n 0, 1) := by decide +kernel
theorem dX4_bidsWithWhy_6 : decode cX4_bidsWithWhy 6 = .ok (.getfield 33, 3) := by decide +kernel
theorem dX4_bidsWithWhy_9 : decode cX4_bidsWithWhy 9 = .ok (.if_icmp .ge 22, 3) := by decide +kernel
theorem dX4_bidsWithWhy_12 : decode cX4_bidsWithWhy 12 = .ok (.aload_n 0, 1) := by decide +kernel
theorem dX4_bidsWithWhy_13 : decode cX4_bidsWithWhy 13 = .ok (.getfield 18, 3) := by decide +kernel
theorem dX4_bidsWithWhy_16 : decode cX4_bidsWithWhy 16 = .ok (.iload_n 3, 1) := by decide +kernel
theorem dX4_bidsWithWhy_17 : decode cX4_bidsWithWhy 17 = .ok (.iaload, 1) := by decide +kernel
theorem dX4_bidsWithWhy_18 : decode cX4_bidsWithWhy 18 = .ok (.iload_n 1, 1) := by decide +kernel
theorem dX4_bidsWithWhy_19 : decode cX4_bidsWithWhy 19 = .ok (.if_icmp .ne 6, 3) := by decide +kernel
theorem dX4_bidsWithWhy_22 : decode cX4_bidsWithWhy 22 = .ok (.iinc 2 1, 3) := by decide +kernel
theorem dX4_bidsWithWhy_25 : decode cX4_bidsWithWhy 25 = .ok (.iinc 3 1, 3) := by decide +kernel
theorem dX4_bidsWithWhy_28 : decode cX4_bidsWithWhy 28 = .ok (.goto (-24), 3) := by decide +kernel
theorem dX4_bidsWithWhy_31 : decode cX4_bidsWithWhy 31 = .ok (.iload_n 2, 1) := by decide +kernel
theorem dX4_bidsWithWhy_32 : decode cX4_bidsWithWhy 32 = .ok (.ireturn, 1) := by decide +kernel
theorem dX4_rateOfStep_0 : decode cX4_rateOfStep 0 = .ok (.iconst 0, 1) := by decide +kernel
theorem dX4_rateOfStep_1 : decode cX4_rateOfStep 1 = .ok (.istore_n 2, 1) := by decide +kernel
theorem dX4_rateOfStep_2 : decode cX4_rateOfStep 2 = .ok (.iconst (-1), 1) := by decide +kernel
theorem dX4_rateOfStep_3 : decode cX4_rateOfStep 3 = .ok (.istore_n 3, 1) := by decide +kernel
theorem dX4_rateOfStep_4 : decode cX4_rateOfStep 4 = .ok (.iconst 0, 1) := by decide +kernel
theorem dX4_rateOfStep_5 : decode cX4_rateOfStep 5 = .ok (.istore 4, 2) := by decide +kernel
theorem dX4_rateOfStep_7 : decode cX4_rateOfStep 7 = .ok (.iload 4, 2) := by decide +kernel
theorem dX4_rateOfStep_9 : decode cX4_rateOfStep 9 = .ok (.aload_n 0, 1) := by decide +kernel
theorem dX4_rateOfStep_10 : decode cX4_rateOfStep 10 = .ok (.getfield 33, 3) := by decide +kernel
theorem dX4_rateOfStep_13 : decode cX4_rateOfStep 13 = .ok (.if_icmp .ge 70, 3) := by decide +kernel
theorem dX4_rateOfStep_16 : decode cX4_rateOfStep 16 = .ok (.aload_n 0, 1) := by decide +kernel
theorem dX4_rateOfStep_17 : decode cX4_rateOfStep 17 = .ok (.getfield 37, 3) := by decide +kernel
theorem dX4_rateOfStep_20 : decode cX4_rateOfStep 20 = .ok (.getfield 72, 3) := by decide +kernel
theorem dX4_rateOfStep_23 : decode cX4_rateOfStep 23 = .ok (.aload_n 0, 1) := by decide +kernel
theorem dX4_rateOfStep_24 : decode cX4_rateOfStep 24 = .ok (.getfield 9, 3) := by decide +kernel
theorem dX4_rateOfStep_27 : decode cX4_rateOfStep 27 = .ok (.iload 4, 2) := by decide +kernel
theorem dX4_rateOfStep_29 : decode cX4_rateOfStep 29 = .ok (.iaload, 1) := by decide +kernel
theorem dX4_rateOfStep_30 : decode cX4_rateOfStep 30 = .ok (.iaload, 1) := by decide +kernel
theorem dX4_rateOfStep_31 : decode cX4_rateOfStep 31 = .ok (.istore 5, 2) := by decide +kernel
theorem dX4_rateOfStep_33 : decode cX4_rateOfStep 33 = .ok (.iload 5, 2) := by decide +kernel
theorem dX4_rateOfStep_35 : decode cX4_rateOfStep 35 = .ok (.iconst (-1), 1) := by decide +kernel
theorem dX4_rateOfStep_36 : decode cX4_rateOfStep 36 = .ok (.if_icmp .eq 41, 3) := by decide +kernel
theorem dX4_rateOfStep_39 : decode cX4_rateOfStep 39 = .ok (.iload 5, 2) := by decide +kernel
theorem dX4_rateOfStep_41 : decode cX4_rateOfStep 41 = .ok (.iload_n 3, 1) := by decide +kernel
theorem dX4_rateOfStep_42 : decode cX4_rateOfStep 42 = .ok (.if_icmp .eq 35, 3) := by decide +kernel
theorem dX4_rateOfStep_45 : decode cX4_rateOfStep 45 = .ok (.aload_n 0, 1) := by decide +kernel
theorem dX4_rateOfStep_46 : decode cX4_rateOfStep 46 = .ok (.getfield 15, 3) := by decide +kernel
theorem dX4_rateOfStep_49 : decode cX4_rateOfStep 49 = .ok (.aload_n 0, 1) := by decide +kernel
theorem dX4_rateOfStep_50 : decode cX4_rateOfStep 50 = .ok (.getfield 9, 3) := by decide +kernel
theorem dX4_rateOfStep_53 : decode cX4_rateOfStep 53 = .ok (.iload 4, 2) := by decide +kernel
theorem dX4_rateOfStep_55 : decode cX4_rateOfStep 55 = .ok (.iaload, 1) := by decide +kernel
theorem dX4_rateOfStep_56 : decode cX4_rateOfStep 56 = .ok (.iaload, 1) := by decide +kernel
theorem dX4_rateOfStep_57 : decode cX4_rateOfStep 57 = .ok (.ifCond .ne 6, 3) := by decide +kernel
theorem dX4_rateOfStep_60 : decode cX4_rateOfStep 60 = .ok (.goto 17, 3) := by decide +kernel
theorem dX4_rateOfStep_63 : decode cX4_rateOfStep 63 = .ok (.iload_n 2, 1) := by decide +kernel
theorem dX4_rateOfStep_64 : decode cX4_rateOfStep 64 = .ok (.iload_n 1, 1) := by decide +kernel
theorem dX4_rateOfStep_65 : decode cX4_rateOfStep 65 = .ok (.if_icmp .ne 6, 3) := by decide +kernel
theorem dX4_rateOfStep_68 : decode cX4_rateOfStep 68 = .ok (.iload 5, 2) := by decide +kernel
theorem dX4_rateOfStep_70 : decode cX4_rateOfStep 70 = .ok (.ireturn, 1) := by decide +kernel
theorem dX4_rateOfStep_71 : decode cX4_rateOfStep 71 = .ok (.iload 5, 2) := by decide +kernel
theorem dX4_rateOfStep_73 : decode cX4_rateOfStep 73 = .ok (.istore_n 3, 1) := by decide +kernel
theorem dX4_rateOfStep_74 : decode cX4_rateOfStep 74 = .ok (.iinc 2 1, 3) := by decide +kernel
theorem dX4_rateOfStep_77 : decode cX4_rateOfStep 77 = .ok (.iinc 4 1, 3) := by decide +kernel
theorem dX4_rateOfStep_80 : decode cX4_rateOfStep 80 = .ok (.goto (-73), 3) := by decide +kernel
theorem dX4_rateOfStep_83 : decode cX4_rateOfStep 83 = .ok (.iconst (-1), 1) := by decide +kernel
theorem dX4_rateOfStep_84 : decode cX4_rateOfStep 84 = .ok (.ireturn, 1) := by decide +kernel
theorem dX4_paysFor_0 : decode cX4_paysFor 0 = .ok (.aload_n 0, 1) := by decide +kernel
theorem dX4_paysFor_1 : decode cX4_paysFor 1 = .ok (.getfield 129, 3) := by decide +kernel
theorem dX4_paysFor_4 : decode cX4_paysFor 4 = .ok (.bipush (-2), 2) := by decide +kernel
theorem dX4_paysFor_6 : decode cX4_paysFor 6 = .ok (.if_icmp .ne 15, 3) := by decide +kernel
theorem dX4_paysFor_9 : decode cX4_paysFor 9 = .ok (.aload_n 0, 1) := by decide +kernel
theorem dX4_paysFor_10 : decode cX4_paysFor 10 = .ok (.getfield 37, 3) := by decide +kernel
theorem dX4_paysFor_13 : decode cX4_paysFor 13 = .ok (.getfield 75, 3) := by decide +kernel
theorem dX4_paysFor_16 : decode cX4_paysFor 16 = .ok (.iconst 3, 1) := by decide +kernel
theorem dX4_paysFor_17 : decode cX4_paysFor 17 = .ok (.iaload, 1) := by decide +kernel
theorem dX4_paysFor_18 : decode cX4_paysFor 18 = .ok (.goto 7, 3) := by decide +kernel
theorem dX4_paysFor_21 : decode cX4_paysFor 21 = .ok (.aload_n 0, 1) := by decide +kernel
theorem dX4_paysFor_22 : decode cX4_paysFor 22 = .ok (.getfield 129, 3) := by decide +kernel
theorem dX4_paysFor_25 : decode cX4_paysFor 25 = .ok (.istore_n 2, 1) := by decide +kernel
theorem dX4_paysFor_26 : decode cX4_paysFor 26 = .ok (.aload_n 0, 1) := by decide +kernel
theorem dX4_paysFor_27 : decode cX4_paysFor 27 = .ok (.getfield 37, 3) := by decide +kernel
theorem dX4_paysFor_30 : decode cX4_paysFor 30 = .ok (.getfield 75, 3) := by decide +kernel
theorem dX4_paysFor_33 : decode cX4_paysFor 33 = .ok (.bipush 6, 2) := by decide +kernel
theorem dX4_paysFor_35 : decode cX4_paysFor 35 = .ok (.iaload, 1) := by decide +kernel
theorem dX4_paysFor_36 : decode cX4_paysFor 36 = .ok (.iconst 1, 1) := by decide +kernel
theorem dX4_paysFor_37 : decode cX4_paysFor 37 = .ok (.if_icmp .ne 33, 3) := by decide +kernel
theorem dX4_paysFor_40 : decode cX4_paysFor 40 = .ok (.aload_n 0, 1) := by decide +kernel
theorem dX4_paysFor_41 : decode cX4_paysFor 41 = .ok (.getfield 37, 3) := by decide +kernel
theorem dX4_paysFor_44 : decode cX4_paysFor 44 = .ok (.getfield 72, 3) := by decide +kernel
theorem dX4_paysFor_47 : decode cX4_paysFor 47 = .ok (.iload_n 1, 1) := by decide +kernel
theorem dX4_paysFor_48 : decode cX4_paysFor 48 = .ok (.iaload, 1) := by decide +kernel
theorem dX4_paysFor_49 : decode cX4_paysFor 49 = .ok (.iconst (-1), 1) := by decide +kernel
theorem dX4_paysFor_50 : decode cX4_paysFor 50 = .ok (.if_icmp .ne 10, 3) := by decide +kernel
theorem dX4_paysFor_53 : decode cX4_paysFor 53 = .ok (.aload_n 0, 1) := by decide +kernel
theorem dX4_paysFor_54 : decode cX4_paysFor 54 = .ok (.getfield 60, 3) := by decide +kernel
theorem dX4_paysFor_57 : decode cX4_paysFor 57 = .ok (.goto 12, 3) := by decide +kernel
theorem dX4_paysFor_60 : decode cX4_paysFor 60 = .ok (.aload_n 0, 1) := by decide +kernel
theorem dX4_paysFor_61 : decode cX4_paysFor 61 = .ok (.getfield 37, 3) := by decide +kernel
theorem dX4_paysFor_64 : decode cX4_paysFor 64 = .ok (.getfield 72, 3) := by decide +kernel
theorem dX4_paysFor_67 : decode cX4_paysFor 67 = .ok (.iload_n 1, 1) := by decide +kernel
theorem dX4_paysFor_68 : decode cX4_paysFor 68 = .ok (.iaload, 1) := by decide +kernel
theorem dX4_paysFor_69 : decode cX4_paysFor 69 = .ok (.istore_n 2, 1) := by decide +kernel
theorem dX4_paysFor_70 : decode cX4_paysFor 70 = .ok (.aload_n 0, 1) := by decide +kernel
theorem dX4_paysFor_71 : decode cX4_paysFor 71 = .ok (.getfield 21, 3) := by decide +kernel
theorem dX4_paysFor_74 : decode cX4_paysFor 74 = .ok (.iload_n 1, 1) := by decide +kernel
theorem dX4_paysFor_75 : decode cX4_paysFor 75 = .ok (.iaload, 1) := by decide +kernel
theorem dX4_paysFor_76 : decode cX4_paysFor 76 = .ok (.i2l, 1) := by decide +kernel
theorem dX4_paysFor_77 : decode cX4_paysFor 77 = .ok (.aload_n 0, 1) := by decide +kernel
theorem dX4_paysFor_78 : decode cX4_paysFor 78 = .ok (.getfield 37, 3) := by decide +kernel
theorem dX4_paysFor_81 : decode cX4_paysFor 81 = .ok (.iload_n 2, 1) := by decide +kernel
theorem dX4_paysFor_82 : decode cX4_paysFor 82 = .ok (.invokevirtual 149, 3) := by decide +kernel
theorem dX4_paysFor_85 : decode cX4_paysFor 85 = .ok (.i2l, 1) := by decide +kernel
theorem dX4_paysFor_86 : decode cX4_paysFor 86 = .ok (.lmul, 1) := by decide +kernel
theorem dX4_paysFor_87 : decode cX4_paysFor 87 = .ok (.lreturn, 1) := by decide +kernel
theorem dX4_paysOf_0 : decode cX4_paysOf 0 = .ok (.lconst 0, 1) := by decide +kernel
theorem dX4_paysOf_1 : decode cX4_paysOf 1 = .ok (.lstore_n 2, 1) := by decide +kernel
theorem dX4_paysOf_2 : decode cX4_paysOf 2 = .ok (.iconst 0, 1) := by decide +kernel
theorem dX4_paysOf_3 : decode cX4_paysOf 3 = .ok (.istore 4, 2) := by decide +kernel
theorem dX4_paysOf_5 : decode cX4_paysOf 5 = .ok (.iload 4, 2) := by decide +kernel
theorem dX4_paysOf_7 : decode cX4_paysOf 7 = .ok (.aload_n 0, 1) := by decide +kernel
theorem dX4_paysOf_8 : decode cX4_paysOf 8 = .ok (.getfield 33, 3) := by decide +kernel
theorem dX4_paysOf_11 : decode cX4_paysOf 11 = .ok (.if_icmp .ge 32, 3) := by decide +kernel
theorem dX4_paysOf_14 : decode cX4_paysOf 14 = .ok (.aload_n 0, 1) := by decide +kernel
theorem dX4_paysOf_15 : decode cX4_paysOf 15 = .ok (.getfield 37, 3) := by decide +kernel
theorem dX4_paysOf_18 : decode cX4_paysOf 18 = .ok (.getfield 104, 3) := by decide +kernel
theorem dX4_paysOf_21 : decode cX4_paysOf 21 = .ok (.iload 4, 2) := by decide +kernel
theorem dX4_paysOf_23 : decode cX4_paysOf 23 = .ok (.iaload, 1) := by decide +kernel
theorem dX4_paysOf_24 : decode cX4_paysOf 24 = .ok (.iload_n 1, 1) := by decide +kernel
theorem dX4_paysOf_25 : decode cX4_paysOf 25 = .ok (.if_icmp .ne 12, 3) := by decide +kernel
theorem dX4_paysOf_28 : decode cX4_paysOf 28 = .ok (.lload_n 2, 1) := by decide +kernel
theorem dX4_paysOf_29 : decode cX4_paysOf 29 = .ok (.aload_n 0, 1) := by decide +kernel
theorem dX4_paysOf_30 : decode cX4_paysOf 30 = .ok (.iload 4, 2) := by decide +kernel
theorem dX4_paysOf_32 : decode cX4_paysOf 32 = .ok (.invokevirtual 153, 3) := by decide +kernel
theorem dX4_paysOf_35 : decode cX4_paysOf 35 = .ok (.ladd, 1) := by decide +kernel
theorem dX4_paysOf_36 : decode cX4_paysOf 36 = .ok (.lstore_n 2, 1) := by decide +kernel
theorem dX4_paysOf_37 : decode cX4_paysOf 37 = .ok (.iinc 4 1, 3) := by decide +kernel
theorem dX4_paysOf_40 : decode cX4_paysOf 40 = .ok (.goto (-35), 3) := by decide +kernel
theorem dX4_paysOf_43 : decode cX4_paysOf 43 = .ok (.lload_n 2, 1) := by decide +kernel
theorem dX4_paysOf_44 : decode cX4_paysOf 44 = .ok (.lreturn, 1) := by decide +kernel
theorem dX4_paysInAll_0 : decode cX4_paysInAll 0 = .ok (.lconst 0, 1) := by decide +kernel
theorem dX4_paysInAll_1 : decode cX4_paysInAll 1 = .ok (.lstore_n 1, 1) := by decide +kernel
theorem dX4_paysInAll_2 : decode cX4_paysInAll 2 = .ok (.iconst 0, 1) := by decide +kernel
theorem dX4_paysInAll_3 : decode cX4_paysInAll 3 = .ok (.istore_n 3, 1) := by decide +kernel
theorem dX4_paysInAll_4 : decode cX4_paysInAll 4 = .ok (.iload_n 3, 1) := by decide +kernel
theorem dX4_paysInAll_5 : decode cX4_paysInAll 5 = .ok (.aload_n 0, 1) := by decide +kernel
theorem dX4_paysInAll_6 : decode cX4_paysInAll 6 = .ok (.getfield 33, 3) := by decide +kernel
theorem dX4_paysInAll_9 : decode cX4_paysInAll 9 = .ok (.if_icmp .ge 17, 3) := by decide +kernel
theorem dX4_paysInAll_12 : decode cX4_paysInAll 12 = .ok (.lload_n 1, 1) := by decide +kernel
theorem dX4_paysInAll_13 : decode cX4_paysInAll 13 = .ok (.aload_n 0, 1) := by decide +kernel
theorem dX4_paysInAll_14 : decode cX4_paysInAll 14 = .ok (.iload_n 3, 1) := by decide +kernel
theorem dX4_paysInAll_15 : decode cX4_paysInAll 15 = .ok (.invokevirtual 153, 3) := by decide +kernel
theorem dX4_paysInAll_18 : decode cX4_paysInAll 18 = .ok (.ladd, 1) := by decide +kernel
theorem dX4_paysInAll_19 : decode cX4_paysInAll 19 = .ok (.lstore_n 1, 1) := by decide +kernel
theorem dX4_paysInAll_20 : decode cX4_paysInAll 20 = .ok (.iinc 3 1, 3) := by decide +kernel
theorem dX4_paysInAll_23 : decode cX4_paysInAll 23 = .ok (.goto (-19), 3) := by decide +kernel
theorem dX4_paysInAll_26 : decode cX4_paysInAll 26 = .ok (.lload_n 1, 1) := by decide +kernel
theorem dX4_paysInAll_27 : decode cX4_paysInAll 27 = .ok (.lreturn, 1) := by decide +kernel
theorem dX4_coverOfOffer_0 : decode cX4_coverOfOffer 0 = .ok (.aload_n 0, 1) := by decide +kernel
theorem dX4_coverOfOffer_1 : decode cX4_coverOfOffer 1 = .ok (.getfield 37, 3) := by decide +kernel
theorem dX4_coverOfOffer_4 : decode cX4_coverOfOffer 4 = .ok (.getfield 75, 3) := by decide +kernel
theorem dX4_coverOfOffer_7 : decode cX4_coverOfOffer 7 = .ok (.iconst 0, 1) := by decide +kernel
theorem dX4_coverOfOffer_8 : decode cX4_coverOfOffer 8 = .ok (.iaload, 1) := by decide +kernel
theorem dX4_coverOfOffer_9 : decode cX4_coverOfOffer 9 = .ok (.istore_n 1, 1) := by decide +kernel
theorem dX4_coverOfOffer_10 : decode cX4_coverOfOffer 10 = .ok (.iload_n 1, 1) := by decide +kernel
theorem dX4_coverOfOffer_11 : decode cX4_coverOfOffer 11 = .ok (.ifCond .le 20, 3) := by decide +kernel
theorem dX4_coverOfOffer_14 : decode cX4_coverOfOffer 14 = .ok (.aload_n 0, 1) := by decide +kernel
theorem dX4_coverOfOffer_15 : decode cX4_coverOfOffer 15 = .ok (.getfield 90, 3) := by decide +kernel
theorem dX4_coverOfOffer_18 : decode cX4_coverOfOffer 18 = .ok (.aload_n 0, 1) := by decide +kernel
theorem dX4_coverOfOffer_19 : decode cX4_coverOfOffer 19 = .ok (.getfield 93, 3) := by decide +kernel
theorem dX4_coverOfOffer_22 : decode cX4_coverOfOffer 22 = .ok (.iadd, 1) := by decide +kernel
theorem dX4_coverOfOffer_23 : decode cX4_coverOfOffer 23 = .ok (.bipush 100, 2) := by decide +kernel
theorem dX4_coverOfOffer_25 : decode cX4_coverOfOffer 25 = .ok (.imul, 1) := by decide +kernel
theorem dX4_coverOfOffer_26 : decode cX4_coverOfOffer 26 = .ok (.iload_n 1, 1) := by decide +kernel
theorem dX4_coverOfOffer_27 : decode cX4_coverOfOffer 27 = .ok (.idiv, 1) := by decide +kernel
theorem dX4_coverOfOffer_28 : decode cX4_coverOfOffer 28 = .ok (.goto 4, 3) := by decide +kernel
theorem dX4_coverOfOffer_31 : decode cX4_coverOfOffer 31 = .ok (.iconst 0, 1) := by decide +kernel
theorem dX4_coverOfOffer_32 : decode cX4_coverOfOffer 32 = .ok (.ireturn, 1) := by decide +kernel
theorem dX4_figure_0 : decode cX4_figure 0 = .ok (.iload_n 1, 1) := by decide +kernel
theorem dX4_figure_1 : decode cX4_figure 1 = .ok (.tableswitch 164 0 11 #[63, 68, 73, 97, 102, 107, 112, 117, 122, 127, 136, 149], 63) := by decide +kernel
theorem dX4_figure_64 : decode cX4_figure 64 = .ok (.aload_n 0, 1) := by decide +kernel
theorem dX4_figure_65 : decode cX4_figure 65 = .ok (.getfield 129, 3) := by decide +kernel
theorem dX4_figure_68 : decode cX4_figure 68 = .ok (.ireturn, 1) := by decide +kernel
theorem dX4_figure_69 : decode cX4_figure 69 = .ok (.aload_n 0, 1) := by decide +kernel
theorem dX4_figure_70 : decode cX4_figure 70 = .ok (.getfield 60, 3) := by decide +kernel
theorem dX4_figure_73 : decode cX4_figure 73 = .ok (.ireturn, 1) := by decide +kernel
theorem dX4_figure_74 : decode cX4_figure 74 = .ok (.aload_n 0, 1) := by decide +kernel
theorem dX4_figure_75 : decode cX4_figure 75 = .ok (.getfield 129, 3) := by decide +kernel
theorem dX4_figure_78 : decode cX4_figure 78 = .ok (.bipush (-2), 2) := by decide +kernel
theorem dX4_figure_80 : decode cX4_figure 80 = .ok (.if_icmp .ne 8, 3) := by decide +kernel
theorem dX4_figure_83 : decode cX4_figure 83 = .ok (.bipush (-2), 2) := by decide +kernel
theorem dX4_figure_85 : decode cX4_figure 85 = .ok (.goto 12, 3) := by decide +kernel
theorem dX4_figure_88 : decode cX4_figure 88 = .ok (.aload_n 0, 1) := by decide +kernel
theorem dX4_figure_89 : decode cX4_figure 89 = .ok (.getfield 129, 3) := by decide +kernel
theorem dX4_figure_92 : decode cX4_figure 92 = .ok (.aload_n 0, 1) := by decide +kernel
theorem dX4_figure_93 : decode cX4_figure 93 = .ok (.getfield 60, 3) := by decide +kernel
theorem dX4_figure_96 : decode cX4_figure 96 = .ok (.isub, 1) := by decide +kernel
theorem dX4_figure_97 : decode cX4_figure 97 = .ok (.ireturn, 1) := by decide +kernel
theorem dX4_figure_98 : decode cX4_figure 98 = .ok (.aload_n 0, 1) := by decide +kernel
theorem dX4_figure_99 : decode cX4_figure 99 = .ok (.invokevirtual 157, 3) := by decide +kernel
theorem dX4_figure_102 : decode cX4_figure 102 = .ok (.ireturn, 1) := by decide +kernel
theorem dX4_figure_103 : decode cX4_figure 103 = .ok (.aload_n 0, 1) := by decide +kernel
theorem dX4_figure_104 : decode cX4_figure 104 = .ok (.getfield 116, 3) := by decide +kernel
theorem dX4_figure_107 : decode cX4_figure 107 = .ok (.ireturn, 1) := by decide +kernel
theorem dX4_figure_108 : decode cX4_figure 108 = .ok (.aload_n 0, 1) := by decide +kernel
theorem dX4_figure_109 : decode cX4_figure 109 = .ok (.getfield 113, 3) := by decide +kernel
theorem dX4_figure_112 : decode cX4_figure 112 = .ok (.ireturn, 1) := by decide +kernel
theorem dX4_figure_113 : decode cX4_figure 113 = .ok (.aload_n 0, 1) := by decide +kernel
theorem dX4_figure_114 : decode cX4_figure 114 = .ok (.getfield 123, 3) := by decide +kernel
theorem dX4_figure_117 : decode cX4_figure 117 = .ok (.ireturn, 1) := by decide +kernel
theorem dX4_figure_118 : decode cX4_figure 118 = .ok (.aload_n 0, 1) := by decide +kernel
theorem dX4_figure_119 : decode cX4_figure 119 = .ok (.getfield 93, 3) := by decide +kernel
theorem dX4_figure_122 : decode cX4_figure 122 = .ok (.ireturn, 1) := by decide +kernel
theorem dX4_figure_123 : decode cX4_figure 123 = .ok (.aload_n 0, 1) := by decide +kernel
theorem dX4_figure_124 : decode cX4_figure 124 = .ok (.invokevirtual 160, 3) := by decide +kernel
theorem dX4_figure_127 : decode cX4_figure 127 = .ok (.ireturn, 1) := by decide +kernel
theorem dX4_figure_128 : decode cX4_figure 128 = .ok (.aload_n 0, 1) := by decide +kernel
theorem dX4_figure_129 : decode cX4_figure 129 = .ok (.aload_n 0, 1) := by decide +kernel
theorem dX4_figure_130 : decode cX4_figure 130 = .ok (.getfield 129, 3) := by decide +kernel
theorem dX4_figure_133 : decode cX4_figure 133 = .ok (.invokevirtual 163, 3) := by decide +kernel
theorem dX4_figure_136 : decode cX4_figure 136 = .ok (.ireturn, 1) := by decide +kernel
theorem dX4_figure_137 : decode cX4_figure 137 = .ok (.aload_n 0, 1) := by decide +kernel
theorem dX4_figure_138 : decode cX4_figure 138 = .ok (.getfield 132, 3) := by decide +kernel
theorem dX4_figure_141 : decode cX4_figure 141 = .ok (.ifCond .eq 7, 3) := by decide +kernel
theorem dX4_figure_144 : decode cX4_figure 144 = .ok (.iconst 1, 1) := by decide +kernel
theorem dX4_figure_145 : decode cX4_figure 145 = .ok (.goto 4, 3) := by decide +kernel
theorem dX4_figure_148 : decode cX4_figure 148 = .ok (.iconst 0, 1) := by decide +kernel
theorem dX4_figure_149 : decode cX4_figure 149 = .ok (.ireturn, 1) := by decide +kernel
theorem dX4_figure_150 : decode cX4_figure 150 = .ok (.aload_n 0, 1) := by decide +kernel
theorem dX4_figure_151 : decode cX4_figure 151 = .ok (.getfield 37, 3) := by decide +kernel
theorem dX4_figure_154 : decode cX4_figure 154 = .ok (.getfield 75, 3) := by decide +kernel
theorem dX4_figure_157 : decode cX4_figure 157 = .ok (.iconst 0, 1) := by decide +kernel
theorem dX4_figure_158 : decode cX4_figure 158 = .ok (.iaload, 1) := by decide +kernel
theorem dX4_figure_159 : decode cX4_figure 159 = .ok (.aload_n 0, 1) := by decide +kernel
theorem dX4_figure_160 : decode cX4_figure 160 = .ok (.invokevirtual 157, 3) := by decide +kernel
theorem dX4_figure_163 : decode cX4_figure 163 = .ok (.isub, 1) := by decide +kernel
theorem dX4_figure_164 : decode cX4_figure 164 = .ok (.ireturn, 1) := by decide +kernel
theorem dX4_figure_165 : decode cX4_figure 165 = .ok (.iconst (-1), 1) := by decide +kernel
theorem dX4_figure_166 : decode cX4_figure 166 = .ok (.ireturn, 1) := by decide +kernel
