theorem dX0_init_0 : decode cX0_init 0 = .ok (.aload_n 0, 1) := by decide +kernel
theorem dX0_init_1 : decode cX0_init 1 = .ok (.invokespecial 3, 3) := by decide +kernel
theorem dX0_init_4 : decode cX0_init 4 = .ok (.aload_n 0, 1) := by decide +kernel
theorem dX0_init_5 : decode cX0_init 5 = .ok (.bipush 7, 2) := by decide +kernel
theorem dX0_init_7 : decode cX0_init 7 = .ok (.newarray .int, 2) := by decide +kernel
theorem dX0_init_9 : decode cX0_init 9 = .ok (.putfield 9, 3) := by decide +kernel
theorem dX0_init_12 : decode cX0_init 12 = .ok (.aload_n 0, 1) := by decide +kernel
theorem dX0_init_13 : decode cX0_init 13 = .ok (.bipush 8, 2) := by decide +kernel
theorem dX0_init_15 : decode cX0_init 15 = .ok (.newarray .int, 2) := by decide +kernel
theorem dX0_init_17 : decode cX0_init 17 = .ok (.putfield 15, 3) := by decide +kernel
theorem dX0_init_20 : decode cX0_init 20 = .ok (.aload_n 0, 1) := by decide +kernel
theorem dX0_init_21 : decode cX0_init 21 = .ok (.bipush 8, 2) := by decide +kernel
theorem dX0_init_23 : decode cX0_init 23 = .ok (.newarray .int, 2) := by decide +kernel
theorem dX0_init_25 : decode cX0_init 25 = .ok (.putfield 18, 3) := by decide +kernel
theorem dX0_init_28 : decode cX0_init 28 = .ok (.aload_n 0, 1) := by decide +kernel
theorem dX0_init_29 : decode cX0_init 29 = .ok (.bipush 30, 2) := by decide +kernel
theorem dX0_init_31 : decode cX0_init 31 = .ok (.newarray .int, 2) := by decide +kernel
theorem dX0_init_33 : decode cX0_init 33 = .ok (.putfield 21, 3) := by decide +kernel
theorem dX0_init_36 : decode cX0_init 36 = .ok (.aload_n 0, 1) := by decide +kernel
theorem dX0_init_37 : decode cX0_init 37 = .ok (.bipush 30, 2) := by decide +kernel
theorem dX0_init_39 : decode cX0_init 39 = .ok (.newarray .int, 2) := by decide +kernel
theorem dX0_init_41 : decode cX0_init 41 = .ok (.putfield 24, 3) := by decide +kernel
theorem dX0_init_44 : decode cX0_init 44 = .ok (.aload_n 0, 1) := by decide +kernel
theorem dX0_init_45 : decode cX0_init 45 = .ok (.bipush 30, 2) := by decide +kernel
theorem dX0_init_47 : decode cX0_init 47 = .ok (.newarray .int, 2) := by decide +kernel
theorem dX0_init_49 : decode cX0_init 49 = .ok (.putfield 27, 3) := by decide +kernel
theorem dX0_init_52 : decode cX0_init 52 = .ok (.aload_n 0, 1) := by decide +kernel
theorem dX0_init_53 : decode cX0_init 53 = .ok (.new 30, 3) := by decide +kernel
theorem dX0_init_56 : decode cX0_init 56 = .ok (.dup, 1) := by decide +kernel
theorem dX0_init_57 : decode cX0_init 57 = .ok (.invokespecial 32, 3) := by decide +kernel
theorem dX0_init_60 : decode cX0_init 60 = .ok (.putfield 33, 3) := by decide +kernel
theorem dX0_init_63 : decode cX0_init 63 = .ok (.aload_n 0, 1) := by decide +kernel
theorem dX0_init_64 : decode cX0_init 64 = .ok (.iconst 0, 1) := by decide +kernel
theorem dX0_init_65 : decode cX0_init 65 = .ok (.putfield 37, 3) := by decide +kernel
theorem dX0_init_68 : decode cX0_init 68 = .ok (.aload_n 0, 1) := by decide +kernel
theorem dX0_init_69 : decode cX0_init 69 = .ok (.invokevirtual 41, 3) := by decide +kernel
theorem dX0_init_72 : decode cX0_init 72 = .ok (.return_, 1) := by decide +kernel
theorem dX0_begin_0 : decode cX0_begin 0 = .ok (.iconst 0, 1) := by decide +kernel
theorem dX0_begin_1 : decode cX0_begin 1 = .ok (.istore_n 1, 1) := by decide +kernel
theorem dX0_begin_2 : decode cX0_begin 2 = .ok (.iload_n 1, 1) := by decide +kernel
theorem dX0_begin_3 : decode cX0_begin 3 = .ok (.bipush 7, 2) := by decide +kernel
theorem dX0_begin_5 : decode cX0_begin 5 = .ok (.if_icmp .ge 20, 3) := by decide +kernel
theorem dX0_begin_8 : decode cX0_begin 8 = .ok (.aload_n 0, 1) := by decide +kernel
theorem dX0_begin_9 : decode cX0_begin 9 = .ok (.getfield 9, 3) := by decide +kernel
theorem dX0_begin_12 : decode cX0_begin 12 = .ok (.iload_n 1, 1) := by decide +kernel
theorem dX0_begin_13 : decode cX0_begin 13 = .ok (.getstatic 44, 3) := by decide +kernel
theorem dX0_begin_16 : decode cX0_begin 16 = .ok (.iload_n 1, 1) := by decide +kernel
theorem dX0_begin_17 : decode cX0_begin 17 = .ok (.iaload, 1) := by decide +kernel
theorem dX0_begin_18 : decode cX0_begin 18 = .ok (.iastore, 1) := by decide +kernel
theorem dX0_begin_19 : decode cX0_begin 19 = .ok (.iinc 1 1, 3) := by decide +kernel
theorem dX0_begin_22 : decode cX0_begin 22 = .ok (.goto (-20), 3) := by decide +kernel
theorem dX0_begin_25 : decode cX0_begin 25 = .ok (.iconst 0, 1) := by decide +kernel
theorem dX0_begin_26 : decode cX0_begin 26 = .ok (.istore_n 1, 1) := by decide +kernel
theorem dX0_begin_27 : decode cX0_begin 27 = .ok (.iload_n 1, 1) := by decide +kernel
theorem dX0_begin_28 : decode cX0_begin 28 = .ok (.bipush 8, 2) := by decide +kernel
theorem dX0_begin_30 : decode cX0_begin 30 = .ok (.if_icmp .ge 23, 3) := by decide +kernel
theorem dX0_begin_33 : decode cX0_begin 33 = .ok (.aload_n 0, 1) := by decide +kernel
theorem dX0_begin_34 : decode cX0_begin 34 = .ok (.getfield 15, 3) := by decide +kernel
theorem dX0_begin_37 : decode cX0_begin 37 = .ok (.iload_n 1, 1) := by decide +kernel
theorem dX0_begin_38 : decode cX0_begin 38 = .ok (.iconst 0, 1) := by decide +kernel
theorem dX0_begin_39 : decode cX0_begin 39 = .ok (.iastore, 1) := by decide +kernel
theorem dX0_begin_40 : decode cX0_begin 40 = .ok (.aload_n 0, 1) := by decide +kernel
theorem dX0_begin_41 : decode cX0_begin 41 = .ok (.getfield 18, 3) := by decide +kernel
theorem dX0_begin_44 : decode cX0_begin 44 = .ok (.iload_n 1, 1) := by decide +kernel
theorem dX0_begin_45 : decode cX0_begin 45 = .ok (.iload_n 1, 1) := by decide +kernel
theorem dX0_begin_46 : decode cX0_begin 46 = .ok (.iastore, 1) := by decide +kernel
theorem dX0_begin_47 : decode cX0_begin 47 = .ok (.iinc 1 1, 3) := by decide +kernel
theorem dX0_begin_50 : decode cX0_begin 50 = .ok (.goto (-23), 3) := by decide +kernel
theorem dX0_begin_53 : decode cX0_begin 53 = .ok (.aload_n 0, 1) := by decide +kernel
theorem dX0_begin_54 : decode cX0_begin 54 = .ok (.iconst 0, 1) := by decide +kernel
theorem dX0_begin_55 : decode cX0_begin 55 = .ok (.putfield 37, 3) := by decide +kernel
theorem dX0_begin_58 : decode cX0_begin 58 = .ok (.aload_n 0, 1) := by decide +kernel
theorem dX0_begin_59 : decode cX0_begin 59 = .ok (.getfield 33, 3) := by decide +kernel
theorem dX0_begin_62 : decode cX0_begin 62 = .ok (.iconst 0, 1) := by decide +kernel
theorem dX0_begin_63 : decode cX0_begin 63 = .ok (.putfield 47, 3) := by decide +kernel
theorem dX0_begin_66 : decode cX0_begin 66 = .ok (.return_, 1) := by decide +kernel
theorem dX0_copyFrom_0 : decode cX0_copyFrom 0 = .ok (.iconst 0, 1) := by decide +kernel
theorem dX0_copyFrom_1 : decode cX0_copyFrom 1 = .ok (.istore_n 2, 1) := by decide +kernel
theorem dX0_copyFrom_2 : decode cX0_copyFrom 2 = .ok (.iload_n 2, 1) := by decide +kernel
theorem dX0_copyFrom_3 : decode cX0_copyFrom 3 = .ok (.bipush 7, 2) := by decide +kernel
theorem dX0_copyFrom_5 : decode cX0_copyFrom 5 = .ok (.if_icmp .ge 21, 3) := by decide +kernel
theorem dX0_copyFrom_8 : decode cX0_copyFrom 8 = .ok (.aload_n 0, 1) := by decide +kernel
theorem dX0_copyFrom_9 : decode cX0_copyFrom 9 = .ok (.getfield 9, 3) := by decide +kernel
theorem dX0_copyFrom_12 : decode cX0_copyFrom 12 = .ok (.iload_n 2, 1) := by decide +kernel
theorem dX0_copyFrom_13 : decode cX0_copyFrom 13 = .ok (.aload_n 1, 1) := by decide +kernel
theorem dX0_copyFrom_14 : decode cX0_copyFrom 14 = .ok (.getfield 9, 3) := by decide +kernel
theorem dX0_copyFrom_17 : decode cX0_copyFrom 17 = .ok (.iload_n 2, 1) := by decide +kernel
theorem dX0_copyFrom_18 : decode cX0_copyFrom 18 = .ok (.iaload, 1) := by decide +kernel
theorem dX0_copyFrom_19 : decode cX0_copyFrom 19 = .ok (.iastore, 1) := by decide +kernel
theorem dX0_copyFrom_20 : decode cX0_copyFrom 20 = .ok (.iinc 2 1, 3) := by decide +kernel
theorem dX0_copyFrom_23 : decode cX0_copyFrom 23 = .ok (.goto (-21), 3) := by decide +kernel
theorem dX0_copyFrom_26 : decode cX0_copyFrom 26 = .ok (.iconst 0, 1) := by decide +kernel
theorem dX0_copyFrom_27 : decode cX0_copyFrom 27 = .ok (.istore_n 2, 1) := by decide +kernel
theorem dX0_copyFrom_28 : decode cX0_copyFrom 28 = .ok (.iload_n 2, 1) := by decide +kernel
theorem dX0_copyFrom_29 : decode cX0_copyFrom 29 = .ok (.bipush 8, 2) := by decide +kernel
theorem dX0_copyFrom_31 : decode cX0_copyFrom 31 = .ok (.if_icmp .ge 33, 3) := by decide +kernel
theorem dX0_copyFrom_34 : decode cX0_copyFrom 34 = .ok (.aload_n 0, 1) := by decide +kernel
theorem dX0_copyFrom_35 : decode cX0_copyFrom 35 = .ok (.getfield 15, 3) := by decide +kernel
theorem dX0_copyFrom_38 : decode cX0_copyFrom 38 = .ok (.iload_n 2, 1) := by decide +kernel
theorem dX0_copyFrom_39 : decode cX0_copyFrom 39 = .ok (.aload_n 1, 1) := by decide +kernel
theorem dX0_copyFrom_40 : decode cX0_copyFrom 40 = .ok (.getfield 15, 3) := by decide +kernel
theorem dX0_copyFrom_43 : decode cX0_copyFrom 43 = .ok (.iload_n 2, 1) := by decide +kernel
theorem dX0_copyFrom_44 : decode cX0_copyFrom 44 = .ok (.iaload, 1) := by decide +kernel
theorem dX0_copyFrom_45 : decode cX0_copyFrom 45 = .ok (.iastore, 1) := by decide +kernel
theorem dX0_copyFrom_46 : decode cX0_copyFrom 46 = .ok (.aload_n 0, 1) := by decide +kernel
theorem dX0_copyFrom_47 : decode cX0_copyFrom 47 = .ok (.getfield 18, 3) := by decide +kernel
theorem dX0_copyFrom_50 : decode cX0_copyFrom 50 = .ok (.iload_n 2, 1) := by decide +kernel
theorem dX0_copyFrom_51 : decode cX0_copyFrom 51 = .ok (.aload_n 1, 1) := by decide +kernel
theorem dX0_copyFrom_52 : decode cX0_copyFrom 52 = .ok (.getfield 18, 3) := by decide +kernel
theorem dX0_copyFrom_55 : decode cX0_copyFrom 55 = .ok (.iload_n 2, 1) := by decide +kernel
theorem dX0_copyFrom_56 : decode cX0_copyFrom 56 = .ok (.iaload, 1) := by decide +kernel
theorem dX0_copyFrom_57 : decode cX0_copyFrom 57 = .ok (.iastore, 1) := by decide +kernel
theorem dX0_copyFrom_58 : decode cX0_copyFrom 58 = .ok (.iinc 2 1, 3) := by decide +kernel
theorem dX0_copyFrom_61 : decode cX0_copyFrom 61 = .ok (.goto (-33), 3) := by decide +kernel
theorem dX0_copyFrom_64 : decode cX0_copyFrom 64 = .ok (.aload_n 0, 1) := by decide +kernel
theorem dX0_copyFrom_65 : decode cX0_copyFrom 65 = .ok (.aload_n 1, 1) := by decide +kernel
theorem dX0_copyFrom_66 : decode cX0_copyFrom 66 = .ok (.getfield 37, 3) := by decide +kernel
theorem dX0_copyFrom_69 : decode cX0_copyFrom 69 = .ok (.putfield 37, 3) := by decide +kernel
theorem dX0_copyFrom_72 : decode cX0_copyFrom 72 = .ok (.iconst 0, 1) := by decide +kernel
theorem dX0_copyFrom_73 : decode cX0_copyFrom 73 = .ok (.istore_n 2, 1) := by decide +kernel
theorem dX0_copyFrom_74 : decode cX0_copyFrom 74 = .ok (.iload_n 2, 1) := by decide +kernel
theorem dX0_copyFrom_75 : decode cX0_copyFrom 75 = .ok (.aload_n 0, 1) := by decide +kernel
theorem dX0_copyFrom_76 : decode cX0_copyFrom 76 = .ok (.getfield 37, 3) := by decide +kernel
theorem dX0_copyFrom_79 : decode cX0_copyFrom 79 = .ok (.if_icmp .ge 45, 3) := by decide +kernel
theorem dX0_copyFrom_82 : decode cX0_copyFrom 82 = .ok (.aload_n 0, 1) := by decide +kernel
theorem dX0_copyFrom_83 : decode cX0_copyFrom 83 = .ok (.getfield 21, 3) := by decide +kernel
theorem dX0_copyFrom_86 : decode cX0_copyFrom 86 = .ok (.iload_n 2, 1) := by decide +kernel
theorem dX0_copyFrom_87 : decode cX0_copyFrom 87 = .ok (.aload_n 1, 1) := by decide +kernel
theorem dX0_copyFrom_88 : decode cX0_copyFrom 88 = .ok (.getfield 21, 3) := by decide +kernel
theorem dX0_copyFrom_91 : decode cX0_copyFrom 91 = .ok (.iload_n 2, 1) := by decide +kernel
theorem dX0_copyFrom_92 : decode cX0_copyFrom 92 = .ok (.iaload, 1) := by decide +kernel
theorem dX0_copyFrom_93 : decode cX0_copyFrom 93 = .ok (.iastore, 1) := by decide +kernel
theorem dX0_copyFrom_94 : decode cX0_copyFrom 94 = .ok (.aload_n 0, 1) := by decide +kernel
theorem dX0_copyFrom_95 : decode cX0_copyFrom 95 = .ok (.getfield 24, 3) := by decide +kernel
theorem dX0_copyFrom_98 : decode cX0_copyFrom 98 = .ok (.iload_n 2, 1) := by decide +kernel
theorem dX0_copyFrom_99 : decode cX0_copyFrom 99 = .ok (.aload_n 1, 1) := by decide +kernel
theorem dX0_copyFrom_100 : decode cX0_copyFrom 100 = .ok (.getfield 24, 3) := by decide +kernel
theorem dX0_copyFrom_103 : decode cX0_copyFrom 103 = .ok (.iload_n 2, 1) := by decide +kernel
theorem dX0_copyFrom_104 : decode cX0_copyFrom 104 = .ok (.iaload, 1) := by decide +kernel
theorem dX0_copyFrom_105 : decode cX0_copyFrom 105 = .ok (.iastore, 1) := by decide +kernel
theorem dX0_copyFrom_106 : decode cX0_copyFrom 106 = .ok (.aload_n 0, 1) := by decide +kernel
theorem dX0_copyFrom_107 : decode cX0_copyFrom 107 = .ok (.getfield 27, 3) := by decide +kernel
theorem dX0_copyFrom_110 : decode cX0_copyFrom 110 = .ok (.iload_n 2, 1) := by decide +kernel
theorem dX0_copyFrom_111 : decode cX0_copyFrom 111 = .ok (.aload_n 1, 1) := by decide +kernel
theorem dX0_copyFrom_112 : decode cX0_copyFrom 112 = .ok (.getfield 27, 3) := by decide +kernel
theorem dX0_copyFrom_115 : decode cX0_copyFrom 115 = .ok (.iload_n 2, 1) := by decide +kernel
theorem dX0_copyFrom_116 : decode cX0_copyFrom 116 = .ok (.iaload, 1) := by decide +kernel
theorem dX0_copyFrom_117 : decode cX0_copyFrom 117 = .ok (.iastore, 1) := by decide +kernel
theorem dX0_copyFrom_118 : decode cX0_copyFrom 118 = .ok (.iinc 2 1, 3) := by decide +kernel
theorem dX0_copyFrom_121 : decode cX0_copyFrom 121 = .ok (.goto (-47), 3) := by decide +kernel
theorem dX0_copyFrom_124 : decode cX0_copyFrom 124 = .ok (.aload_n 0, 1) := by decide +kernel
theorem dX0_copyFrom_125 : decode cX0_copyFrom 125 = .ok (.getfield 33, 3) := by decide +kernel
theorem dX0_copyFrom_128 : decode cX0_copyFrom 128 = .ok (.aload_n 1, 1) := by decide +kernel
theorem dX0_copyFrom_129 : decode cX0_copyFrom 129 = .ok (.getfield 33, 3) := by decide +kernel
theorem dX0_copyFrom_132 : decode cX0_copyFrom 132 = .ok (.invokevirtual 50, 3) := by decide +kernel
theorem dX0_copyFrom_135 : decode cX0_copyFrom 135 = .ok (.return_, 1) := by decide +kernel
theorem dX0_hasBid_0 : decode cX0_hasBid 0 = .ok (.iload_n 1, 1) := by decide +kernel
theorem dX0_hasBid_1 : decode cX0_hasBid 1 = .ok (.ifCond .lt 15, 3) := by decide +kernel
theorem dX0_hasBid_4 : decode cX0_hasBid 4 = .ok (.iload_n 1, 1) := by decide +kernel
theorem dX0_hasBid_5 : decode cX0_hasBid 5 = .ok (.aload_n 0, 1) := by decide +kernel
theorem dX0_hasBid_6 : decode cX0_hasBid 6 = .ok (.getfield 37, 3) := by decide +kernel
theorem dX0_hasBid_9 : decode cX0_hasBid 9 = .ok (.if_icmp .ge 7, 3) := by decide +kernel
theorem dX0_hasBid_12 : decode cX0_hasBid 12 = .ok (.iconst 1, 1) := by decide +kernel
theorem dX0_hasBid_13 : decode cX0_hasBid 13 = .ok (.goto 4, 3) := by decide +kernel
theorem dX0_hasBid_16 : decode cX0_hasBid 16 = .ok (.iconst 0, 1) := by decide +kernel
theorem dX0_hasBid_17 : decode cX0_hasBid 17 = .ok (.ireturn, 1) := by decide +kernel
theorem dX0_termFits_0 : decode cX0_termFits 0 = .ok (.iload_n 1, 1) := by decide +kernel
theorem dX0_termFits_1 : decode cX0_termFits 1 = .ok (.ifCond .lt 27, 3) := by decide +kernel
theorem dX0_termFits_4 : decode cX0_termFits 4 = .ok (.iload_n 1, 1) := by decide +kernel
theorem dX0_termFits_5 : decode cX0_termFits 5 = .ok (.bipush 7, 2) := by decide +kernel
theorem dX0_termFits_7 : decode cX0_termFits 7 = .ok (.if_icmp .ge 21, 3) := by decide +kernel
theorem dX0_termFits_10 : decode cX0_termFits 10 = .ok (.iload_n 2, 1) := by decide +kernel
theorem dX0_termFits_11 : decode cX0_termFits 11 = .ok (.getstatic 54, 3) := by decide +kernel
theorem dX0_termFits_14 : decode cX0_termFits 14 = .ok (.iload_n 1, 1) := by decide +kernel
theorem dX0_termFits_15 : decode cX0_termFits 15 = .ok (.iaload, 1) := by decide +kernel
theorem dX0_termFits_16 : decode cX0_termFits 16 = .ok (.if_icmp .lt 12, 3) := by decide +kernel
theorem dX0_termFits_19 : decode cX0_termFits 19 = .ok (.iload_n 2, 1) := by decide +kernel
theorem dX0_termFits_20 : decode cX0_termFits 20 = .ok (.getstatic 57, 3) := by decide +kernel
theorem dX0_termFits_23 : decode cX0_termFits 23 = .ok (.iload_n 1, 1) := by decide +kernel
theorem dX0_termFits_24 : decode cX0_termFits 24 = .ok (.iaload, 1) := by decide +kernel
theorem dX0_termFits_25 : decode cX0_termFits 25 = .ok (.if_icmp .le 5, 3) := by decide +kernel
theorem dX0_termFits_28 : decode cX0_termFits 28 = .ok (.iconst 0, 1) := by decide +kernel
theorem dX0_termFits_29 : decode cX0_termFits 29 = .ok (.ireturn, 1) := by decide +kernel
theorem dX0_termFits_30 : decode cX0_termFits 30 = .ok (.iload_n 1, 1) := by decide +kernel
theorem dX0_termFits_31 : decode cX0_termFits 31 = .ok (.iconst 3, 1) := by decide +kernel
theorem dX0_termFits_32 : decode cX0_termFits 32 = .ok (.if_icmp .ne 19, 3) := by decide +kernel
theorem dX0_termFits_35 : decode cX0_termFits 35 = .ok (.iload_n 2, 1) := by decide +kernel
theorem dX0_termFits_36 : decode cX0_termFits 36 = .ok (.aload_n 0, 1) := by decide +kernel
theorem dX0_termFits_37 : decode cX0_termFits 37 = .ok (.getfield 9, 3) := by decide +kernel
theorem dX0_termFits_40 : decode cX0_termFits 40 = .ok (.iconst 4, 1) := by decide +kernel
theorem dX0_termFits_41 : decode cX0_termFits 41 = .ok (.iaload, 1) := by decide +kernel
theorem dX0_termFits_42 : decode cX0_termFits 42 = .ok (.if_icmp .gt 7, 3) := by decide +kernel
theorem dX0_termFits_45 : decode cX0_termFits 45 = .ok (.iconst 1, 1) := by decide +kernel
theorem dX0_termFits_46 : decode cX0_termFits 46 = .ok (.goto 4, 3) := by decide +kernel
theorem dX0_termFits_49 : decode cX0_termFits 49 = .ok (.iconst 0, 1) := by decide +kernel
theorem dX0_termFits_50 : decode cX0_termFits 50 = .ok (.ireturn, 1) := by decide +kernel
theorem dX0_termFits_51 : decode cX0_termFits 51 = .ok (.iload_n 1, 1) := by decide +kernel
theorem dX0_termFits_52 : decode cX0_termFits 52 = .ok (.iconst 4, 1) := by decide +kernel
theorem dX0_termFits_53 : decode cX0_termFits 53 = .ok (.if_icmp .ne 13, 3) := by decide +kernel
theorem dX0_termFits_56 : decode cX0_termFits 56 = .ok (.iload_n 2, 1) := by decide +kernel
theorem dX0_termFits_57 : decode cX0_termFits 57 = .ok (.aload_n 0, 1) := by decide +kernel
theorem dX0_termFits_58 : decode cX0_termFits 58 = .ok (.getfield 9, 3) := by decide +kernel
theorem dX0_termFits_61 : decode cX0_termFits 61 = .ok (.iconst 3, 1) := by decide +kernel
theorem dX0_termFits_62 : decode cX0_termFits 62 = .ok (.iaload, 1) := by decide +kernel
theorem dX0_termFits_63 : decode cX0_termFits 63 = .ok (.if_icmp .lt 7, 3) := by decide +kernel
theorem dX0_termFits_66 : decode cX0_termFits 66 = .ok (.iconst 1, 1) := by decide +kernel
theorem dX0_termFits_67 : decode cX0_termFits 67 = .ok (.goto 4, 3) := by decide +kernel
theorem dX0_termFits_70 : decode cX0_termFits 70 = .ok (.iconst 0, 1) := by decide +kernel
theorem dX0_termFits_71 : decode cX0_termFits 71 = .ok (.ireturn, 1) := by decide +kernel
theorem dX0_insert_0 : decode cX0_insert 0 = .ok (.iload_n 1, 1) := by decide +kernel
theorem dX0_insert_1 : decode cX0_insert 1 = .ok (.ifCond .lt 20, 3) := by decide +kernel
theorem dX0_insert_4 : decode cX0_insert 4 = .ok (.iload_n 1, 1) := by decide +kernel
theorem dX0_insert_5 : decode cX0_insert 5 = .ok (.aload_n 0, 1) := by decide +kernel
theorem dX0_insert_6 : decode cX0_insert 6 = .ok (.getfield 37, 3) := by decide +kernel
theorem dX0_insert_9 : decode cX0_insert 9 = .ok (.if_icmp .gt 12, 3) := by decide +kernel
theorem dX0_insert_12 : decode cX0_insert 12 = .ok (.aload_n 0, 1) := by decide +kernel
theorem dX0_insert_13 : decode cX0_insert 13 = .ok (.getfield 37, 3) := by decide +kernel
theorem dX0_insert_16 : decode cX0_insert 16 = .ok (.bipush 30, 2) := by decide +kernel
theorem dX0_insert_18 : decode cX0_insert 18 = .ok (.if_icmp .lt 4, 3) := by decide +kernel
theorem dX0_insert_21 : decode cX0_insert 21 = .ok (.return_, 1) := by decide +kernel
theorem dX0_insert_22 : decode cX0_insert 22 = .ok (.aload_n 0, 1) := by decide +kernel
theorem dX0_insert_23 : decode cX0_insert 23 = .ok (.getfield 37, 3) := by decide +kernel
theorem dX0_insert_26 : decode cX0_insert 26 = .ok (.istore 5, 2) := by decide +kernel
theorem dX0_insert_28 : decode cX0_insert 28 = .ok (.iload 5, 2) := by decide +kernel
theorem dX0_insert_30 : decode cX0_insert 30 = .ok (.iload_n 1, 1) := by decide +kernel
theorem dX0_insert_31 : decode cX0_insert 31 = .ok (.if_icmp .le 57, 3) := by decide +kernel
theorem dX0_insert_34 : decode cX0_insert 34 = .ok (.aload_n 0, 1) := by decide +kernel
theorem dX0_insert_35 : decode cX0_insert 35 = .ok (.getfield 21, 3) := by decide +kernel
theorem dX0_insert_38 : decode cX0_insert 38 = .ok (.iload 5, 2) := by decide +kernel
theorem dX0_insert_40 : decode cX0_insert 40 = .ok (.aload_n 0, 1) := by decide +kernel
theorem dX0_insert_41 : decode cX0_insert 41 = .ok (.getfield 21, 3) := by decide +kernel
theorem dX0_insert_44 : decode cX0_insert 44 = .ok (.iload 5, 2) := by decide +kernel
theorem dX0_insert_46 : decode cX0_insert 46 = .ok (.iconst 1, 1) := by decide +kernel
theorem dX0_insert_47 : decode cX0_insert 47 = .ok (.isub, 1) := by decide +kernel
theorem dX0_insert_48 : decode cX0_insert 48 = .ok (.iaload, 1) := by decide +kernel
theorem dX0_insert_49 : decode cX0_insert 49 = .ok (.iastore, 1) := by decide +kernel
theorem dX0_insert_50 : decode cX0_insert 50 = .ok (.aload_n 0, 1) := by decide +kernel
theorem dX0_insert_51 : decode cX0_insert 51 = .ok (.getfield 24, 3) := by decide +kernel
theorem dX0_insert_54 : decode cX0_insert 54 = .ok (.iload 5, 2) := by decide +kernel
theorem dX0_insert_56 : decode cX0_insert 56 = .ok (.aload_n 0, 1) := by decide +kernel
theorem dX0_insert_57 : decode cX0_insert 57 = .ok (.getfield 24, 3) := by decide +kernel
theorem dX0_insert_60 : decode cX0_insert 60 = .ok (.iload 5, 2) := by decide +kernel
theorem dX0_insert_62 : decode cX0_insert 62 = .ok (.iconst 1, 1) := by decide +kernel
theorem dX0_insert_63 : decode cX0_insert 63 = .ok (.isub, 1) := by decide +kernel
theorem dX0_insert_64 : decode cX0_insert 64 = .ok (.iaload, 1) := by decide +kernel
theorem dX0_insert_65 : decode cX0_insert 65 = .ok (.iastore, 1) := by decide +kernel
theorem dX0_insert_66 : decode cX0_insert 66 = .ok (.aload_n 0, 1) := by decide +kernel
theorem dX0_insert_67 : decode cX0_insert 67 = .ok (.getfield 27, 3) := by decide +kernel
theorem dX0_insert_70 : decode cX0_insert 70 = .ok (.iload 5, 2) := by decide +kernel
theorem dX0_insert_72 : decode cX0_insert 72 = .ok (.aload_n 0, 1) := by decide +kernel
theorem dX0_insert_73 : decode cX0_insert 73 = .ok (.getfield 27, 3) := by decide +kernel
theorem dX0_insert_76 : decode cX0_insert 76 = .ok (.iload 5, 2) := by decide +kernel
theorem dX0_insert_78 : decode cX0_insert 78 = .ok (.iconst 1, 1) := by decide +kernel
theorem dX0_insert_79 : decode cX0_insert 79 = .ok (.isub, 1) := by decide +kernel
theorem dX0_insert_80 : decode cX0_insert 80 = .ok (.iaload, 1) := by decide +kernel
theorem dX0_insert_81 : decode cX0_insert 81 = .ok (.iastore, 1) := by decide +kernel
theorem dX0_insert_82 : decode cX0_insert 82 = .ok (.iinc 5 (-1), 3) := by decide +kernel
theorem dX0_insert_85 : decode cX0_insert 85 = .ok (.goto (-57), 3) := by decide +kernel
theorem dX0_insert_88 : decode cX0_insert 88 = .ok (.aload_n 0, 1) := by decide +kernel
theorem dX0_insert_89 : decode cX0_insert 89 = .ok (.getfield 21, 3) := by decide +kernel
theorem dX0_insert_92 : decode cX0_insert 92 = .ok (.iload_n 1, 1) := by decide +kernel
theorem dX0_insert_93 : decode cX0_insert 93 = .ok (.iload_n 2, 1) := by decide +kernel
theorem dX0_insert_94 : decode cX0_insert 94 = .ok (.iastore, 1) := by decide +kernel
theorem dX0_insert_95 : decode cX0_insert 95 = .ok (.aload_n 0, 1) := by decide +kernel
theorem dX0_insert_96 : decode cX0_insert 96 = .ok (.getfield 24, 3) := by decide +kernel
theorem dX0_insert_99 : decode cX0_insert 99 = .ok (.iload_n 1, 1) := by decide +kernel
theorem dX0_insert_100 : decode cX0_insert 100 = .ok (.iload_n 3, 1) := by decide +kernel
theorem dX0_insert_101 : decode cX0_insert 101 = .ok (.iastore, 1) := by decide +kernel
theorem dX0_insert_102 : decode cX0_insert 102 = .ok (.aload_n 0, 1) := by decide +kernel
theorem dX0_insert_103 : decode cX0_insert 103 = .ok (.getfield 27, 3) := by decide +kernel
theorem dX0_insert_106 : decode cX0_insert 106 = .ok (.iload_n 1, 1) := by decide +kernel
theorem dX0_insert_107 : decode cX0_insert 107 = .ok (.iload 4, 2) := by decide +kernel
theorem dX0_insert_109 : decode cX0_insert 109 = .ok (.iastore, 1) := by decide +kernel
theorem dX0_insert_110 : decode cX0_insert 110 = .ok (.aload_n 0, 1) := by decide +kernel
theorem dX0_insert_111 : decode cX0_insert 111 = .ok (.dup, 1) := by decide +kernel
theorem dX0_insert_112 : decode cX0_insert 112 = .ok (.getfield 37, 3) := by decide +kernel
theorem dX0_insert_115 : decode cX0_insert 115 = .ok (.iconst 1, 1) := by decide +kernel
theorem dX0_insert_116 : decode cX0_insert 116 = .ok (.iadd, 1) := by decide +kernel
theorem dX0_insert_117 : decode cX0_insert 117 = .ok (.putfield 37, 3) := by decide +kernel
theorem dX0_insert_120 : decode cX0_insert 120 = .ok (.return_, 1) := by decide +kernel
theorem dX0_remove_0 : decode cX0_remove 0 = .ok (.aload_n 0, 1) := by decide +kernel
theorem dX0_remove_1 : decode cX0_remove 1 = .ok (.iload_n 1, 1) := by decide +kernel
theorem dX0_remove_2 : decode cX0_remove 2 = .ok (.invokevirtual 60, 3) := by decide +kernel
theorem dX0_remove_5 : decode cX0_remove 5 = .ok (.ifCond .ne 4, 3) := by decide +kernel
theorem dX0_remove_8 : decode cX0_remove 8 = .ok (.return_, 1) := by decide +kernel
theorem dX0_remove_9 : decode cX0_remove 9 = .ok (.aload_n 0, 1) := by decide +kernel
theorem dX0_remove_10 : decode cX0_remove 10 = .ok (.dup, 1) := by decide +kernel
theorem dX0_remove_11 : decode cX0_remove 11 = .ok (.getfield 37, 3) := by decide +kernel
theorem dX0_remove_14 : decode cX0_remove 14 = .ok (.iconst 1, 1) := by decide +kernel
theorem dX0_remove_15 : decode cX0_remove 15 = .ok (.isub, 1) := by decide +kernel
theorem dX0_remove_16 : decode cX0_remove 16 = .ok (.putfield 37, 3) := by decide +kernel
theorem dX0_remove_19 : decode cX0_remove 19 = .ok (.iload_n 1, 1) := by decide +kernel
theorem dX0_remove_20 : decode cX0_remove 20 = .ok (.istore_n 2, 1) := by decide +kernel
theorem dX0_remove_21 : decode cX0_remove 21 = .ok (.iload_n 2, 1) := by decide +kernel
theorem dX0_remove_22 : decode cX0_remove 22 = .ok (.aload_n 0, 1) := by decide +kernel
theorem dX0_remove_23 : decode cX0_remove 23 = .ok (.getfield 37, 3) := by decide +kernel
theorem dX0_remove_26 : decode cX0_remove 26 = .ok (.if_icmp .ge 51, 3) := by decide +kernel
theorem dX0_remove_29 : decode cX0_remove 29 = .ok (.aload_n 0, 1) := by decide +kernel
theorem dX0_remove_30 : decode cX0_remove 30 = .ok (.getfield 21, 3) := by decide +kernel
theorem dX0_remove_33 : decode cX0_remove 33 = .ok (.iload_n 2, 1) := by decide +kernel
theorem dX0_remove_34 : decode cX0_remove 34 = .ok (.aload_n 0, 1) := by decide +kernel
theorem dX0_remove_35 : decode cX0_remove 35 = .ok (.getfield 21, 3) := by decide +kernel
theorem dX0_remove_38 : decode cX0_remove 38 = .ok (.iload_n 2, 1) := by decide +kernel
theorem dX0_remove_39 : decode cX0_remove 39 = .ok (.iconst 1, 1) := by decide +kernel
theorem dX0_remove_40 : decode cX0_remove 40 = .ok (.iadd, 1) := by decide +kernel
theorem dX0_remove_41 : decode cX0_remove 41 = .ok (.iaload, 1) := by decide +kernel
theorem dX0_remove_42 : decode cX0_remove 42 = .ok (.iastore, 1) := by decide +kernel
theorem dX0_remove_43 : decode cX0_remove 43 = .ok (.aload_n 0, 1) := by decide +kernel
theorem dX0_remove_44 : decode cX0_remove 44 = .ok (.getfield 24, 3) := by decide +kernel
theorem dX0_remove_47 : decode cX0_remove 47 = .ok (.iload_n 2, 1) := by decide +kernel
theorem dX0_remove_48 : decode cX0_remove 48 = .ok (.aload_n 0, 1) := by decide +kernel
theorem dX0_remove_49 : decode cX0_remove 49 = .ok (.getfield 24, 3) := by decide +kernel
theorem dX0_remove_52 : decode cX0_remove 52 = .ok (.iload_n 2, 1) := by decide +kernel
theorem dX0_remove_53 : decode cX0_remove 53 = .ok (.iconst 1, 1) := by decide +kernel
theorem dX0_remove_54 : decode cX0_remove 54 = .ok (.iadd, 1) := by decide +kernel
theorem dX0_remove_55 : decode cX0_remove 55 = .ok (.iaload, 1) := by decide +kernel
theorem dX0_remove_56 : decode cX0_remove 56 = .ok (.iastore, 1) := by decide +kernel
theorem dX0_remove_57 : decode cX0_remove 57 = .ok (.aload_n 0, 1) := by decide +kernel
theorem dX0_remove_58 : decode cX0_remove 58 = .ok (.getfield 27, 3) := by decide +kernel
theorem dX0_remove_61 : decode cX0_remove 61 = .ok (.iload_n 2, 1) := by decide +kernel
theorem dX0_remove_62 : decode cX0_remove 62 = .ok (.aload_n 0, 1) := by decide +kernel
theorem dX0_remove_63 : decode cX0_remove 63 = .ok (.getfield 27, 3) := by decide +kernel
theorem dX0_remove_66 : decode cX0_remove 66 = .ok (.iload_n 2, 1) := by decide +kernel
theorem dX0_remove_67 : decode cX0_remove 67 = .ok (.iconst 1, 1) := by decide +kernel
theorem dX0_remove_68 : decode cX0_remove 68 = .ok (.iadd, 1) := by decide +kernel
theorem dX0_remove_69 : decode cX0_remove 69 = .ok (.iaload, 1) := by decide +kernel
theorem dX0_remove_70 : decode cX0_remove 70 = .ok (.iastore, 1) := by decide +kernel
theorem dX0_remove_71 : decode cX0_remove 71 = .ok (.iinc 2 1, 3) := by decide +kernel
theorem dX0_remove_74 : decode cX0_remove 74 = .ok (.goto (-53), 3) := by decide +kernel
theorem dX0_remove_77 : decode cX0_remove 77 = .ok (.return_, 1) := by decide +kernel
theorem dX0_removeAllOf_0 : decode cX0_removeAllOf 0 = .ok (.aload_n 0, 1) := by decide +kernel
theorem dX0_removeAllOf_1 : decode cX0_removeAllOf 1 = .ok (.getfield 37, 3) := by decide +kernel
theorem dX0_removeAllOf_4 : decode cX0_removeAllOf 4 = .ok (.iconst 1, 1) := by decide +kernel
theorem dX0_removeAllOf_5 : decode cX0_removeAllOf 5 = .ok (.isub, 1) := by decide +kernel
theorem dX0_removeAllOf_6 : decode cX0_removeAllOf 6 = .ok (.istore_n 2, 1) := by decide +kernel
theorem dX0_removeAllOf_7 : decode cX0_removeAllOf 7 = .ok (.iload_n 2, 1) := by decide +kernel
theorem dX0_removeAllOf_8 : decode cX0_removeAllOf 8 = .ok (.ifCond .lt 24, 3) := by decide +kernel
theorem dX0_removeAllOf_11 : decode cX0_removeAllOf 11 = .ok (.aload_n 0, 1) := by decide +kernel
theorem dX0_removeAllOf_12 : decode cX0_removeAllOf 12 = .ok (.getfield 21, 3) := by decide +kernel
theorem dX0_removeAllOf_15 : decode cX0_removeAllOf 15 = .ok (.iload_n 2, 1) := by decide +kernel
theorem dX0_removeAllOf_16 : decode cX0_removeAllOf 16 = .ok (.iaload, 1) := by decide +kernel
theorem dX0_removeAllOf_17 : decode cX0_removeAllOf 17 = .ok (.iload_n 1, 1) := by decide +kernel
theorem dX0_removeAllOf_18 : decode cX0_removeAllOf 18 = .ok (.if_icmp .ne 8, 3) := by decide +kernel
theorem dX0_removeAllOf_21 : decode cX0_removeAllOf 21 = .ok (.aload_n 0, 1) := by decide +kernel
theorem dX0_removeAllOf_22 : decode cX0_removeAllOf 22 = .ok (.iload_n 2, 1) := by decide +kernel
theorem dX0_removeAllOf_23 : decode cX0_removeAllOf 23 = .ok (.invokevirtual 64, 3) := by decide +kernel
theorem dX0_removeAllOf_26 : decode cX0_removeAllOf 26 = .ok (.iinc 2 (-1), 3) := by decide +kernel
theorem dX0_removeAllOf_29 : decode cX0_removeAllOf 29 = .ok (.goto (-22), 3) := by decide +kernel
theorem dX0_removeAllOf_32 : decode cX0_removeAllOf 32 = .ok (.return_, 1) := by decide +kernel
theorem dX0_join_0 : decode cX0_join 0 = .ok (.aload_n 0, 1) := by decide +kernel
theorem dX0_join_1 : decode cX0_join 1 = .ok (.getfield 37, 3) := by decide +kernel
theorem dX0_join_4 : decode cX0_join 4 = .ok (.iconst 1, 1) := by decide +kernel
theorem dX0_join_5 : decode cX0_join 5 = .ok (.isub, 1) := by decide +kernel
theorem dX0_join_6 : decode cX0_join 6 = .ok (.istore_n 2, 1) := by decide +kernel
theorem dX0_join_7 : decode cX0_join 7 = .ok (.iload_n 2, 1) := by decide +kernel
theorem dX0_join_8 : decode cX0_join 8 = .ok (.ifCond .le 60, 3) := by decide +kernel
theorem dX0_join_11 : decode cX0_join 11 = .ok (.aload_n 0, 1) := by decide +kernel
theorem dX0_join_12 : decode cX0_join 12 = .ok (.iload_n 2, 1) := by decide +kernel
theorem dX0_join_13 : decode cX0_join 13 = .ok (.invokevirtual 68, 3) := by decide +kernel
theorem dX0_join_16 : decode cX0_join 16 = .ok (.istore_n 3, 1) := by decide +kernel
theorem dX0_join_17 : decode cX0_join 17 = .ok (.aload_n 0, 1) := by decide +kernel
theorem dX0_join_18 : decode cX0_join 18 = .ok (.getfield 21, 3) := by decide +kernel
theorem dX0_join_21 : decode cX0_join 21 = .ok (.iload_n 2, 1) := by decide +kernel
theorem dX0_join_22 : decode cX0_join 22 = .ok (.iaload, 1) := by decide +kernel
theorem dX0_join_23 : decode cX0_join 23 = .ok (.iload_n 1, 1) := by decide +kernel
theorem dX0_join_24 : decode cX0_join 24 = .ok (.if_icmp .ne 38, 3) := by decide +kernel
theorem dX0_join_27 : decode cX0_join 27 = .ok (.iload_n 3, 1) := by decide +kernel
theorem dX0_join_28 : decode cX0_join 28 = .ok (.iload_n 2, 1) := by decide +kernel
theorem dX0_join_29 : decode cX0_join 29 = .ok (.if_icmp .ge 33, 3) := by decide +kernel
theorem dX0_join_32 : decode cX0_join 32 = .ok (.aload_n 0, 1) := by decide +kernel
theorem dX0_join_33 : decode cX0_join 33 = .ok (.getfield 27, 3) := by decide +kernel
theorem dX0_join_36 : decode cX0_join 36 = .ok (.iload_n 3, 1) := by decide +kernel
theorem dX0_join_37 : decode cX0_join 37 = .ok (.sipush 1000, 3) := by decide +kernel
theorem dX0_join_40 : decode cX0_join 40 = .ok (.aload_n 0, 1) := by decide +kernel
theorem dX0_join_41 : decode cX0_join 41 = .ok (.getfield 27, 3) := by decide +kernel
theorem dX0_join_44 : decode cX0_join 44 = .ok (.iload_n 3, 1) := by decide +kernel
theorem dX0_join_45 : decode cX0_join 45 = .ok (.iaload, 1) := by decide +kernel
theorem dX0_join_46 : decode cX0_join 46 = .ok (.aload_n 0, 1) := by decide +kernel
theorem dX0_join_47 : decode cX0_join 47 = .ok (.getfield 27, 3) := by decide +kernel
theorem dX0_join_50 : decode cX0_join 50 = .ok (.iload_n 2, 1) := by decide +kernel
theorem dX0_join_51 : decode cX0_join 51 = .ok (.iaload, 1) := by decide +kernel
theorem dX0_join_52 : decode cX0_join 52 = .ok (.iadd, 1) := by decide +kernel
theorem dX0_join_53 : decode cX0_join 53 = .ok (.invokestatic 72, 3) := by decide +kernel
theorem dX0_join_56 : decode cX0_join 56 = .ok (.iastore, 1) := by decide +kernel
theorem dX0_join_57 : decode cX0_join 57 = .ok (.aload_n 0, 1) := by decide +kernel
theorem dX0_join_58 : decode cX0_join 58 = .ok (.iload_n 2, 1) := by decide +kernel
theorem dX0_join_59 : decode cX0_join 59 = .ok (.invokevirtual 64, 3) := by decide +kernel
theorem dX0_join_62 : decode cX0_join 62 = .ok (.iinc 2 (-1), 3) := by decide +kernel
theorem dX0_join_65 : decode cX0_join 65 = .ok (.goto (-58), 3) := by decide +kernel
theorem dX0_join_68 : decode cX0_join 68 = .ok (.return_, 1) := by decide +kernel
theorem dX0_firstLike_0 : decode cX0_firstLike 0 = .ok (.iconst 0, 1) := by decide +kernel
theorem dX0_firstLike_1 : decode cX0_firstLike 1 = .ok (.istore_n 2, 1) := by decide +kernel
theorem dX0_firstLike_2 : decode cX0_firstLike 2 = .ok (.iload_n 2, 1) := by decide +kernel
theorem dX0_firstLike_3 : decode cX0_firstLike 3 = .ok (.iload_n 1, 1) := by decide +kernel
theorem dX0_firstLike_4 : decode cX0_firstLike 4 = .ok (.if_icmp .ge 41, 3) := by decide +kernel
theorem dX0_firstLike_7 : decode cX0_firstLike 7 = .ok (.aload_n 0, 1) := by decide +kernel
theorem dX0_firstLike_8 : decode cX0_firstLike 8 = .ok (.getfield 21, 3) := by decide +kernel
theorem dX0_firstLike_11 : decode cX0_firstLike 11 = .ok (.iload_n 2, 1) := by decide +kernel
theorem dX0_firstLike_12 : decode cX0_firstLike 12 = .ok (.iaload, 1) := by decide +kernel
theorem dX0_firstLike_13 : decode cX0_firstLike 13 = .ok (.aload_n 0, 1) := by decide +kernel
theorem dX0_firstLike_14 : decode cX0_firstLike 14 = .ok (.getfield 21, 3) := by decide +kernel
theorem dX0_firstLike_17 : decode cX0_firstLike 17 = .ok (.iload_n 1, 1) := by decide +kernel
theorem dX0_firstLike_18 : decode cX0_firstLike 18 = .ok (.iaload, 1) := by decide +kernel
theorem dX0_firstLike_19 : decode cX0_firstLike 19 = .ok (.if_icmp .ne 20, 3) := by decide +kernel
theorem dX0_firstLike_22 : decode cX0_firstLike 22 = .ok (.aload_n 0, 1) := by decide +kernel
theorem dX0_firstLike_23 : decode cX0_firstLike 23 = .ok (.getfield 24, 3) := by decide +kernel
theorem dX0_firstLike_26 : decode cX0_firstLike 26 = .ok (.iload_n 2, 1) := by decide +kernel
theorem dX0_firstLike_27 : decode cX0_firstLike 27 = .ok (.iaload, 1) := by decide +kernel
theorem dX0_firstLike_28 : decode cX0_firstLike 28 = .ok (.aload_n 0, 1) := by decide +kernel
theorem dX0_firstLike_29 : decode cX0_firstLike 29 = .ok (.getfield 24, 3) := by decide +kernel
theorem dX0_firstLike_32 : decode cX0_firstLike 32 = .ok (.iload_n 1, 1) := by decide +kernel
theorem dX0_firstLike_33 : decode cX0_firstLike 33 = .ok (.iaload, 1) := by decide +kernel
theorem dX0_firstLike_34 : decode cX0_firstLike 34 = .ok (.if_icmp .ne 5, 3) := by decide +kernel
theorem dX0_firstLike_37 : decode cX0_firstLike 37 = .ok (.iload_n 2, 1) := by decide +kernel
theorem dX0_firstLike_38 : decode cX0_firstLike 38 = .ok (.ireturn, 1) := by decide +kernel
theorem dX0_firstLike_39 : decode cX0_firstLike 39 = .ok (.iinc 2 1, 3) := by decide +kernel
theorem dX0_firstLike_42 : decode cX0_firstLike 42 = .ok (.goto (-40), 3) := by decide +kernel
theorem dX0_firstLike_45 : decode cX0_firstLike 45 = .ok (.iload_n 1, 1) := by decide +kernel
theorem dX0_firstLike_46 : decode cX0_firstLike 46 = .ok (.ireturn, 1) := by decide +kernel
theorem dX0_priceAt_0 : decode cX0_priceAt 0 = .ok (.ldc 78, 2) := by decide +kernel
theorem dX0_priceAt_2 : decode cX0_priceAt 2 = .ok (.iload_n 1, 1) := by decide +kernel
theorem dX0_priceAt_3 : decode cX0_priceAt 3 = .ok (.aload_n 0, 1) := by decide +kernel
theorem dX0_priceAt_4 : decode cX0_priceAt 4 = .ok (.getfield 9, 3) := by decide +kernel
theorem dX0_priceAt_7 : decode cX0_priceAt 7 = .ok (.iconst 5, 1) := by decide +kernel
theorem dX0_priceAt_8 : decode cX0_priceAt 8 = .ok (.iaload, 1) := by decide +kernel
theorem dX0_priceAt_9 : decode cX0_priceAt 9 = .ok (.imul, 1) := by decide +kernel
theorem dX0_priceAt_10 : decode cX0_priceAt 10 = .ok (.bipush 100, 2) := by decide +kernel
theorem dX0_priceAt_12 : decode cX0_priceAt 12 = .ok (.imul, 1) := by decide +kernel
theorem dX0_priceAt_13 : decode cX0_priceAt 13 = .ok (.sipush 360, 3) := by decide +kernel
theorem dX0_priceAt_16 : decode cX0_priceAt 16 = .ok (.idiv, 1) := by decide +kernel
theorem dX0_priceAt_17 : decode cX0_priceAt 17 = .ok (.isub, 1) := by decide +kernel
theorem dX0_priceAt_18 : decode cX0_priceAt 18 = .ok (.ireturn, 1) := by decide +kernel
theorem dX0_lotsOf_0 : decode cX0_lotsOf 0 = .ok (.aload_n 0, 1) := by decide +kernel
theorem dX0_lotsOf_1 : decode cX0_lotsOf 1 = .ok (.getfield 27, 3) := by decide +kernel
theorem dX0_lotsOf_4 : decode cX0_lotsOf 4 = .ok (.aload_n 0, 1) := by decide +kernel
theorem dX0_lotsOf_5 : decode cX0_lotsOf 5 = .ok (.getfield 21, 3) := by decide +kernel
theorem dX0_lotsOf_8 : decode cX0_lotsOf 8 = .ok (.iload_n 1, 1) := by decide +kernel
theorem dX0_lotsOf_9 : decode cX0_lotsOf 9 = .ok (.aload_n 0, 1) := by decide +kernel
theorem dX0_lotsOf_10 : decode cX0_lotsOf 10 = .ok (.getfield 37, 3) := by decide +kernel
theorem dX0_lotsOf_13 : decode cX0_lotsOf 13 = .ok (.invokestatic 79, 3) := by decide +kernel
theorem dX0_lotsOf_16 : decode cX0_lotsOf 16 = .ok (.ireturn, 1) := by decide +kernel
theorem dX0_ownedBy_0 : decode cX0_ownedBy 0 = .ok (.iconst 0, 1) := by decide +kernel
theorem dX0_ownedBy_1 : decode cX0_ownedBy 1 = .ok (.istore_n 2, 1) := by decide +kernel
theorem dX0_ownedBy_2 : decode cX0_ownedBy 2 = .ok (.iconst 0, 1) := by decide +kernel
theorem dX0_ownedBy_3 : decode cX0_ownedBy 3 = .ok (.istore_n 3, 1) := by decide +kernel
theorem dX0_ownedBy_4 : decode cX0_ownedBy 4 = .ok (.iload_n 3, 1) := by decide +kernel
theorem dX0_ownedBy_5 : decode cX0_ownedBy 5 = .ok (.bipush 8, 2) := by decide +kernel
theorem dX0_ownedBy_7 : decode cX0_ownedBy 7 = .ok (.if_icmp .ge 22, 3) := by decide +kernel
theorem dX0_ownedBy_10 : decode cX0_ownedBy 10 = .ok (.aload_n 0, 1) := by decide +kernel
theorem dX0_ownedBy_11 : decode cX0_ownedBy 11 = .ok (.getfield 18, 3) := by decide +kernel
theorem dX0_ownedBy_14 : decode cX0_ownedBy 14 = .ok (.iload_n 3, 1) := by decide +kernel
theorem dX0_ownedBy_15 : decode cX0_ownedBy 15 = .ok (.iaload, 1) := by decide +kernel
theorem dX0_ownedBy_16 : decode cX0_ownedBy 16 = .ok (.iload_n 1, 1) := by decide +kernel
theorem dX0_ownedBy_17 : decode cX0_ownedBy 17 = .ok (.if_icmp .ne 6, 3) := by decide +kernel
theorem dX0_ownedBy_20 : decode cX0_ownedBy 20 = .ok (.iinc 2 1, 3) := by decide +kernel
theorem dX0_ownedBy_23 : decode cX0_ownedBy 23 = .ok (.iinc 3 1, 3) := by decide +kernel
theorem dX0_ownedBy_26 : decode cX0_ownedBy 26 = .ok (.goto (-22), 3) := by decide +kernel
theorem dX0_ownedBy_29 : decode cX0_ownedBy 29 = .ok (.iload_n 2, 1) := by decide +kernel
theorem dX0_ownedBy_30 : decode cX0_ownedBy 30 = .ok (.ireturn, 1) := by decide +kernel
theorem dX0_ownersInAll_0 : decode cX0_ownersInAll 0 = .ok (.iconst 0, 1) := by decide +kernel
theorem dX0_ownersInAll_1 : decode cX0_ownersInAll 1 = .ok (.istore_n 1, 1) := by decide +kernel
theorem dX0_ownersInAll_2 : decode cX0_ownersInAll 2 = .ok (.iconst 0, 1) := by decide +kernel
theorem dX0_ownersInAll_3 : decode cX0_ownersInAll 3 = .ok (.istore_n 2, 1) := by decide +kernel
theorem dX0_ownersInAll_4 : decode cX0_ownersInAll 4 = .ok (.iload_n 2, 1) := by decide +kernel
theorem dX0_ownersInAll_5 : decode cX0_ownersInAll 5 = .ok (.bipush 8, 2) := by decide +kernel
theorem dX0_ownersInAll_7 : decode cX0_ownersInAll 7 = .ok (.if_icmp .ge 20, 3) := by decide +kernel
theorem dX0_ownersInAll_10 : decode cX0_ownersInAll 10 = .ok (.aload_n 0, 1) := by decide +kernel
theorem dX0_ownersInAll_11 : decode cX0_ownersInAll 11 = .ok (.iload_n 2, 1) := by decide +kernel
theorem dX0_ownersInAll_12 : decode cX0_ownersInAll 12 = .ok (.invokevirtual 83, 3) := by decide +kernel
theorem dX0_ownersInAll_15 : decode cX0_ownersInAll 15 = .ok (.ifCond .le 6, 3) := by decide +kernel
theorem dX0_ownersInAll_18 : decode cX0_ownersInAll 18 = .ok (.iinc 1 1, 3) := by decide +kernel
theorem dX0_ownersInAll_21 : decode cX0_ownersInAll 21 = .ok (.iinc 2 1, 3) := by decide +kernel
theorem dX0_ownersInAll_24 : decode cX0_ownersInAll 24 = .ok (.goto (-20), 3) := by decide +kernel
theorem dX0_ownersInAll_27 : decode cX0_ownersInAll 27 = .ok (.iload_n 1, 1) := by decide +kernel
theorem dX0_ownersInAll_28 : decode cX0_ownersInAll 28 = .ok (.ireturn, 1) := by decide +kernel
theorem dX0_plainBids_0 : decode cX0_plainBids 0 = .ok (.iconst 0, 1) := by decide +kernel
theorem dX0_plainBids_1 : decode cX0_plainBids 1 = .ok (.istore_n 1, 1) := by decide +kernel
theorem dX0_plainBids_2 : decode cX0_plainBids 2 = .ok (.iconst 0, 1) := by decide +kernel
theorem dX0_plainBids_3 : decode cX0_plainBids 3 = .ok (.istore_n 2, 1) := by decide +kernel
theorem dX0_plainBids_4 : decode cX0_plainBids 4 = .ok (.iload_n 2, 1) := by decide +kernel
theorem dX0_plainBids_5 : decode cX0_plainBids 5 = .ok (.aload_n 0, 1) := by decide +kernel
theorem dX0_plainBids_6 : decode cX0_plainBids 6 = .ok (.getfield 37, 3) := by decide +kernel
theorem dX0_plainBids_9 : decode cX0_plainBids 9 = .ok (.if_icmp .ge 22, 3) := by decide +kernel
theorem dX0_plainBids_12 : decode cX0_plainBids 12 = .ok (.aload_n 0, 1) := by decide +kernel
theorem dX0_plainBids_13 : decode cX0_plainBids 13 = .ok (.getfield 24, 3) := by decide +kernel
theorem dX0_plainBids_16 : decode cX0_plainBids 16 = .ok (.iload_n 2, 1) := by decide +kernel
theorem dX0_plainBids_17 : decode cX0_plainBids 17 = .ok (.iaload, 1) := by decide +kernel
theorem dX0_plainBids_18 : decode cX0_plainBids 18 = .ok (.iconst (-1), 1) := by decide +kernel
theorem dX0_plainBids_19 : decode cX0_plainBids 19 = .ok (.if_icmp .ne 6, 3) := by decide +kernel
theorem dX0_plainBids_22 : decode cX0_plainBids 22 = .ok (.iinc 1 1, 3) := by decide +kernel
theorem dX0_plainBids_25 : decode cX0_plainBids 25 = .ok (.iinc 2 1, 3) := by decide +kernel
theorem dX0_plainBids_28 : decode cX0_plainBids 28 = .ok (.goto (-24), 3) := by decide +kernel
theorem dX0_plainBids_31 : decode cX0_plainBids 31 = .ok (.iload_n 1, 1) := by decide +kernel
theorem dX0_plainBids_32 : decode cX0_plainBids 32 = .ok (.ireturn, 1) := by decide +kernel
theorem dX0_housesWithBids_0 : decode cX0_housesWithBids 0 = .ok (.iconst 0, 1) := by decide +kernel
theorem dX0_housesWithBids_1 : decode cX0_housesWithBids 1 = .ok (.istore_n 1, 1) := by decide +kernel
theorem dX0_housesWithBids_2 : decode cX0_housesWithBids 2 = .ok (.iconst 0, 1) := by decide +kernel
theorem dX0_housesWithBids_3 : decode cX0_housesWithBids 3 = .ok (.istore_n 2, 1) := by decide +kernel
theorem dX0_housesWithBids_4 : decode cX0_housesWithBids 4 = .ok (.iload_n 2, 1) := by decide +kernel
theorem dX0_housesWithBids_5 : decode cX0_housesWithBids 5 = .ok (.bipush 8, 2) := by decide +kernel
theorem dX0_housesWithBids_7 : decode cX0_housesWithBids 7 = .ok (.if_icmp .ge 20, 3) := by decide +kernel
theorem dX0_housesWithBids_10 : decode cX0_housesWithBids 10 = .ok (.aload_n 0, 1) := by decide +kernel
theorem dX0_housesWithBids_11 : decode cX0_housesWithBids 11 = .ok (.iload_n 2, 1) := by decide +kernel
theorem dX0_housesWithBids_12 : decode cX0_housesWithBids 12 = .ok (.invokevirtual 86, 3) := by decide +kernel
theorem dX0_housesWithBids_15 : decode cX0_housesWithBids 15 = .ok (.ifCond .le 6, 3) := by decide +kernel
theorem dX0_housesWithBids_18 : decode cX0_housesWithBids 18 = .ok (.iinc 1 1, 3) := by decide +kernel
theorem dX0_housesWithBids_21 : decode cX0_housesWithBids 21 = .ok (.iinc 2 1, 3) := by decide +kernel
theorem dX0_housesWithBids_24 : decode cX0_housesWithBids 24 = .ok (.goto (-20), 3) := by decide +kernel
theorem dX0_housesWithBids_27 : decode cX0_housesWithBids 27 = .ok (.iload_n 1, 1) := by decide +kernel
theorem dX0_housesWithBids_28 : decode cX0_housesWithBids 28 = .ok (.ireturn, 1) := by decide +kernel
