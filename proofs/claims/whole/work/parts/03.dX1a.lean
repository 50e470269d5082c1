theorem dX1_init_0 : decode cX1_init 0 = .ok (.aload_n 0, 1) := by decide +kernel
theorem dX1_init_1 : decode cX1_init 1 = .ok (.invokespecial 3, 3) := by decide +kernel
theorem dX1_init_4 : decode cX1_init 4 = .ok (.aload_n 0, 1) := by decide +kernel
theorem dX1_init_5 : decode cX1_init 5 = .ok (.bipush 8, 2) := by decide +kernel
theorem dX1_init_7 : decode cX1_init 7 = .ok (.newarray .int, 2) := by decide +kernel
theorem dX1_init_9 : decode cX1_init 9 = .ok (.putfield 9, 3) := by decide +kernel
theorem dX1_init_12 : decode cX1_init 12 = .ok (.aload_n 0, 1) := by decide +kernel
theorem dX1_init_13 : decode cX1_init 13 = .ok (.bipush 8, 2) := by decide +kernel
theorem dX1_init_15 : decode cX1_init 15 = .ok (.newarray .int, 2) := by decide +kernel
theorem dX1_init_17 : decode cX1_init 17 = .ok (.putfield 15, 3) := by decide +kernel
theorem dX1_init_20 : decode cX1_init 20 = .ok (.aload_n 0, 1) := by decide +kernel
theorem dX1_init_21 : decode cX1_init 21 = .ok (.bipush 8, 2) := by decide +kernel
theorem dX1_init_23 : decode cX1_init 23 = .ok (.newarray .int, 2) := by decide +kernel
theorem dX1_init_25 : decode cX1_init 25 = .ok (.putfield 18, 3) := by decide +kernel
theorem dX1_init_28 : decode cX1_init 28 = .ok (.aload_n 0, 1) := by decide +kernel
theorem dX1_init_29 : decode cX1_init 29 = .ok (.bipush 8, 2) := by decide +kernel
theorem dX1_init_31 : decode cX1_init 31 = .ok (.newarray .long, 2) := by decide +kernel
theorem dX1_init_33 : decode cX1_init 33 = .ok (.putfield 21, 3) := by decide +kernel
theorem dX1_init_36 : decode cX1_init 36 = .ok (.aload_n 0, 1) := by decide +kernel
theorem dX1_init_37 : decode cX1_init 37 = .ok (.iconst 0, 1) := by decide +kernel
theorem dX1_init_38 : decode cX1_init 38 = .ok (.putfield 25, 3) := by decide +kernel
theorem dX1_init_41 : decode cX1_init 41 = .ok (.return_, 1) := by decide +kernel
theorem dX1_copyFrom_0 : decode cX1_copyFrom 0 = .ok (.aload_n 0, 1) := by decide +kernel
theorem dX1_copyFrom_1 : decode cX1_copyFrom 1 = .ok (.aload_n 1, 1) := by decide +kernel
theorem dX1_copyFrom_2 : decode cX1_copyFrom 2 = .ok (.getfield 25, 3) := by decide +kernel
theorem dX1_copyFrom_5 : decode cX1_copyFrom 5 = .ok (.putfield 25, 3) := by decide +kernel
theorem dX1_copyFrom_8 : decode cX1_copyFrom 8 = .ok (.iconst 0, 1) := by decide +kernel
theorem dX1_copyFrom_9 : decode cX1_copyFrom 9 = .ok (.istore_n 2, 1) := by decide +kernel
theorem dX1_copyFrom_10 : decode cX1_copyFrom 10 = .ok (.iload_n 2, 1) := by decide +kernel
theorem dX1_copyFrom_11 : decode cX1_copyFrom 11 = .ok (.bipush 8, 2) := by decide +kernel
theorem dX1_copyFrom_13 : decode cX1_copyFrom 13 = .ok (.if_icmp .ge 57, 3) := by decide +kernel
theorem dX1_copyFrom_16 : decode cX1_copyFrom 16 = .ok (.aload_n 0, 1) := by decide +kernel
theorem dX1_copyFrom_17 : decode cX1_copyFrom 17 = .ok (.getfield 9, 3) := by decide +kernel
theorem dX1_copyFrom_20 : decode cX1_copyFrom 20 = .ok (.iload_n 2, 1) := by decide +kernel
theorem dX1_copyFrom_21 : decode cX1_copyFrom 21 = .ok (.aload_n 1, 1) := by decide +kernel
theorem dX1_copyFrom_22 : decode cX1_copyFrom 22 = .ok (.getfield 9, 3) := by decide +kernel
theorem dX1_copyFrom_25 : decode cX1_copyFrom 25 = .ok (.iload_n 2, 1) := by decide +kernel
theorem dX1_copyFrom_26 : decode cX1_copyFrom 26 = .ok (.iaload, 1) := by decide +kernel
theorem dX1_copyFrom_27 : decode cX1_copyFrom 27 = .ok (.iastore, 1) := by decide +kernel
theorem dX1_copyFrom_28 : decode cX1_copyFrom 28 = .ok (.aload_n 0, 1) := by decide +kernel
theorem dX1_copyFrom_29 : decode cX1_copyFrom 29 = .ok (.getfield 15, 3) := by decide +kernel
theorem dX1_copyFrom_32 : decode cX1_copyFrom 32 = .ok (.iload_n 2, 1) := by decide +kernel
theorem dX1_copyFrom_33 : decode cX1_copyFrom 33 = .ok (.aload_n 1, 1) := by decide +kernel
theorem dX1_copyFrom_34 : decode cX1_copyFrom 34 = .ok (.getfield 15, 3) := by decide +kernel
theorem dX1_copyFrom_37 : decode cX1_copyFrom 37 = .ok (.iload_n 2, 1) := by decide +kernel
theorem dX1_copyFrom_38 : decode cX1_copyFrom 38 = .ok (.iaload, 1) := by decide +kernel
theorem dX1_copyFrom_39 : decode cX1_copyFrom 39 = .ok (.iastore, 1) := by decide +kernel
theorem dX1_copyFrom_40 : decode cX1_copyFrom 40 = .ok (.aload_n 0, 1) := by decide +kernel
theorem dX1_copyFrom_41 : decode cX1_copyFrom 41 = .ok (.getfield 18, 3) := by decide +kernel
theorem dX1_copyFrom_44 : decode cX1_copyFrom 44 = .ok (.iload_n 2, 1) := by decide +kernel
theorem dX1_copyFrom_45 : decode cX1_copyFrom 45 = .ok (.aload_n 1, 1) := by decide +kernel
theorem dX1_copyFrom_46 : decode cX1_copyFrom 46 = .ok (.getfield 18, 3) := by decide +kernel
theorem dX1_copyFrom_49 : decode cX1_copyFrom 49 = .ok (.iload_n 2, 1) := by decide +kernel
theorem dX1_copyFrom_50 : decode cX1_copyFrom 50 = .ok (.iaload, 1) := by decide +kernel
theorem dX1_copyFrom_51 : decode cX1_copyFrom 51 = .ok (.iastore, 1) := by decide +kernel
theorem dX1_copyFrom_52 : decode cX1_copyFrom 52 = .ok (.aload_n 0, 1) := by decide +kernel
theorem dX1_copyFrom_53 : decode cX1_copyFrom 53 = .ok (.getfield 21, 3) := by decide +kernel
theorem dX1_copyFrom_56 : decode cX1_copyFrom 56 = .ok (.iload_n 2, 1) := by decide +kernel
theorem dX1_copyFrom_57 : decode cX1_copyFrom 57 = .ok (.aload_n 1, 1) := by decide +kernel
theorem dX1_copyFrom_58 : decode cX1_copyFrom 58 = .ok (.getfield 21, 3) := by decide +kernel
theorem dX1_copyFrom_61 : decode cX1_copyFrom 61 = .ok (.iload_n 2, 1) := by decide +kernel
theorem dX1_copyFrom_62 : decode cX1_copyFrom 62 = .ok (.laload, 1) := by decide +kernel
theorem dX1_copyFrom_63 : decode cX1_copyFrom 63 = .ok (.lastore, 1) := by decide +kernel
theorem dX1_copyFrom_64 : decode cX1_copyFrom 64 = .ok (.iinc 2 1, 3) := by decide +kernel
theorem dX1_copyFrom_67 : decode cX1_copyFrom 67 = .ok (.goto (-57), 3) := by decide +kernel
theorem dX1_copyFrom_70 : decode cX1_copyFrom 70 = .ok (.return_, 1) := by decide +kernel
theorem dX1_hasLine_0 : decode cX1_hasLine 0 = .ok (.iload_n 1, 1) := by decide +kernel
theorem dX1_hasLine_1 : decode cX1_hasLine 1 = .ok (.ifCond .lt 15, 3) := by decide +kernel
theorem dX1_hasLine_4 : decode cX1_hasLine 4 = .ok (.iload_n 1, 1) := by decide +kernel
theorem dX1_hasLine_5 : decode cX1_hasLine 5 = .ok (.aload_n 0, 1) := by decide +kernel
theorem dX1_hasLine_6 : decode cX1_hasLine 6 = .ok (.getfield 25, 3) := by decide +kernel
theorem dX1_hasLine_9 : decode cX1_hasLine 9 = .ok (.if_icmp .ge 7, 3) := by decide +kernel
theorem dX1_hasLine_12 : decode cX1_hasLine 12 = .ok (.iconst 1, 1) := by decide +kernel
theorem dX1_hasLine_13 : decode cX1_hasLine 13 = .ok (.goto 4, 3) := by decide +kernel
theorem dX1_hasLine_16 : decode cX1_hasLine 16 = .ok (.iconst 0, 1) := by decide +kernel
theorem dX1_hasLine_17 : decode cX1_hasLine 17 = .ok (.ireturn, 1) := by decide +kernel
theorem dX1_add_0 : decode cX1_add 0 = .ok (.bipush 7, 2) := by decide +kernel
theorem dX1_add_2 : decode cX1_add 2 = .ok (.istore 6, 2) := by decide +kernel
theorem dX1_add_4 : decode cX1_add 4 = .ok (.iload 6, 2) := by decide +kernel
theorem dX1_add_6 : decode cX1_add 6 = .ok (.ifCond .le 73, 3) := by decide +kernel
theorem dX1_add_9 : decode cX1_add 9 = .ok (.aload_n 0, 1) := by decide +kernel
theorem dX1_add_10 : decode cX1_add 10 = .ok (.getfield 9, 3) := by decide +kernel
theorem dX1_add_13 : decode cX1_add 13 = .ok (.iload 6, 2) := by decide +kernel
theorem dX1_add_15 : decode cX1_add 15 = .ok (.aload_n 0, 1) := by decide +kernel
theorem dX1_add_16 : decode cX1_add 16 = .ok (.getfield 9, 3) := by decide +kernel
theorem dX1_add_19 : decode cX1_add 19 = .ok (.iload 6, 2) := by decide +kernel
theorem dX1_add_21 : decode cX1_add 21 = .ok (.iconst 1, 1) := by decide +kernel
theorem dX1_add_22 : decode cX1_add 22 = .ok (.isub, 1) := by decide +kernel
theorem dX1_add_23 : decode cX1_add 23 = .ok (.iaload, 1) := by decide +kernel
theorem dX1_add_24 : decode cX1_add 24 = .ok (.iastore, 1) := by decide +kernel
theorem dX1_add_25 : decode cX1_add 25 = .ok (.aload_n 0, 1) := by decide +kernel
theorem dX1_add_26 : decode cX1_add 26 = .ok (.getfield 15, 3) := by decide +kernel
theorem dX1_add_29 : decode cX1_add 29 = .ok (.iload 6, 2) := by decide +kernel
theorem dX1_add_31 : decode cX1_add 31 = .ok (.aload_n 0, 1) := by decide +kernel
theorem dX1_add_32 : decode cX1_add 32 = .ok (.getfield 15, 3) := by decide +kernel
theorem dX1_add_35 : decode cX1_add 35 = .ok (.iload 6, 2) := by decide +kernel
theorem dX1_add_37 : decode cX1_add 37 = .ok (.iconst 1, 1) := by decide +kernel
theorem dX1_add_38 : decode cX1_add 38 = .ok (.isub, 1) := by decide +kernel
theorem dX1_add_39 : decode cX1_add 39 = .ok (.iaload, 1) := by decide +kernel
theorem dX1_add_40 : decode cX1_add 40 = .ok (.iastore, 1) := by decide +kernel
theorem dX1_add_41 : decode cX1_add 41 = .ok (.aload_n 0, 1) := by decide +kernel
theorem dX1_add_42 : decode cX1_add 42 = .ok (.getfield 18, 3) := by decide +kernel
theorem dX1_add_45 : decode cX1_add 45 = .ok (.iload 6, 2) := by decide +kernel
theorem dX1_add_47 : decode cX1_add 47 = .ok (.aload_n 0, 1) := by decide +kernel
theorem dX1_add_48 : decode cX1_add 48 = .ok (.getfield 18, 3) := by decide +kernel
theorem dX1_add_51 : decode cX1_add 51 = .ok (.iload 6, 2) := by decide +kernel
theorem dX1_add_53 : decode cX1_add 53 = .ok (.iconst 1, 1) := by decide +kernel
theorem dX1_add_54 : decode cX1_add 54 = .ok (.isub, 1) := by decide +kernel
theorem dX1_add_55 : decode cX1_add 55 = .ok (.iaload, 1) := by decide +kernel
theorem dX1_add_56 : decode cX1_add 56 = .ok (.iastore, 1) := by decide +kernel
theorem dX1_add_57 : decode cX1_add 57 = .ok (.aload_n 0, 1) := by decide +kernel
theorem dX1_add_58 : decode cX1_add 58 = .ok (.getfield 21, 3) := by decide +kernel
theorem dX1_add_61 : decode cX1_add 61 = .ok (.iload 6, 2) := by decide +kernel
theorem dX1_add_63 : decode cX1_add 63 = .ok (.aload_n 0, 1) := by decide +kernel
theorem dX1_add_64 : decode cX1_add 64 = .ok (.getfield 21, 3) := by decide +kernel
theorem dX1_add_67 : decode cX1_add 67 = .ok (.iload 6, 2) := by decide +kernel
theorem dX1_add_69 : decode cX1_add 69 = .ok (.iconst 1, 1) := by decide +kernel
theorem dX1_add_70 : decode cX1_add 70 = .ok (.isub, 1) := by decide +kernel
theorem dX1_add_71 : decode cX1_add 71 = .ok (.laload, 1) := by decide +kernel
theorem dX1_add_72 : decode cX1_add 72 = .ok (.lastore, 1) := by decide +kernel
theorem dX1_add_73 : decode cX1_add 73 = .ok (.iinc 6 (-1), 3) := by decide +kernel
theorem dX1_add_76 : decode cX1_add 76 = .ok (.goto (-72), 3) := by decide +kernel
theorem dX1_add_79 : decode cX1_add 79 = .ok (.aload_n 0, 1) := by decide +kernel
theorem dX1_add_80 : decode cX1_add 80 = .ok (.getfield 9, 3) := by decide +kernel
theorem dX1_add_83 : decode cX1_add 83 = .ok (.iconst 0, 1) := by decide +kernel
theorem dX1_add_84 : decode cX1_add 84 = .ok (.iload_n 1, 1) := by decide +kernel
theorem dX1_add_85 : decode cX1_add 85 = .ok (.iastore, 1) := by decide +kernel
theorem dX1_add_86 : decode cX1_add 86 = .ok (.aload_n 0, 1) := by decide +kernel
theorem dX1_add_87 : decode cX1_add 87 = .ok (.getfield 15, 3) := by decide +kernel
theorem dX1_add_90 : decode cX1_add 90 = .ok (.iconst 0, 1) := by decide +kernel
theorem dX1_add_91 : decode cX1_add 91 = .ok (.iload_n 2, 1) := by decide +kernel
theorem dX1_add_92 : decode cX1_add 92 = .ok (.iastore, 1) := by decide +kernel
theorem dX1_add_93 : decode cX1_add 93 = .ok (.aload_n 0, 1) := by decide +kernel
theorem dX1_add_94 : decode cX1_add 94 = .ok (.getfield 18, 3) := by decide +kernel
theorem dX1_add_97 : decode cX1_add 97 = .ok (.iconst 0, 1) := by decide +kernel
theorem dX1_add_98 : decode cX1_add 98 = .ok (.iload_n 3, 1) := by decide +kernel
theorem dX1_add_99 : decode cX1_add 99 = .ok (.iastore, 1) := by decide +kernel
theorem dX1_add_100 : decode cX1_add 100 = .ok (.aload_n 0, 1) := by decide +kernel
theorem dX1_add_101 : decode cX1_add 101 = .ok (.getfield 21, 3) := by decide +kernel
theorem dX1_add_104 : decode cX1_add 104 = .ok (.iconst 0, 1) := by decide +kernel
theorem dX1_add_105 : decode cX1_add 105 = .ok (.lload 4, 2) := by decide +kernel
theorem dX1_add_107 : decode cX1_add 107 = .ok (.lastore, 1) := by decide +kernel
theorem dX1_add_108 : decode cX1_add 108 = .ok (.aload_n 0, 1) := by decide +kernel
theorem dX1_add_109 : decode cX1_add 109 = .ok (.bipush 8, 2) := by decide +kernel
theorem dX1_add_111 : decode cX1_add 111 = .ok (.aload_n 0, 1) := by decide +kernel
theorem dX1_add_112 : decode cX1_add 112 = .ok (.getfield 25, 3) := by decide +kernel
theorem dX1_add_115 : decode cX1_add 115 = .ok (.iconst 1, 1) := by decide +kernel
theorem dX1_add_116 : decode cX1_add 116 = .ok (.iadd, 1) := by decide +kernel
theorem dX1_add_117 : decode cX1_add 117 = .ok (.invokestatic 29, 3) := by decide +kernel
theorem dX1_add_120 : decode cX1_add 120 = .ok (.putfield 25, 3) := by decide +kernel
theorem dX1_add_123 : decode cX1_add 123 = .ok (.return_, 1) := by decide +kernel
theorem dX1_soldInAll_0 : decode cX1_soldInAll 0 = .ok (.iconst 0, 1) := by decide +kernel
theorem dX1_soldInAll_1 : decode cX1_soldInAll 1 = .ok (.istore_n 1, 1) := by decide +kernel
theorem dX1_soldInAll_2 : decode cX1_soldInAll 2 = .ok (.iconst 0, 1) := by decide +kernel
theorem dX1_soldInAll_3 : decode cX1_soldInAll 3 = .ok (.istore_n 2, 1) := by decide +kernel
theorem dX1_soldInAll_4 : decode cX1_soldInAll 4 = .ok (.iload_n 2, 1) := by decide +kernel
theorem dX1_soldInAll_5 : decode cX1_soldInAll 5 = .ok (.aload_n 0, 1) := by decide +kernel
theorem dX1_soldInAll_6 : decode cX1_soldInAll 6 = .ok (.getfield 25, 3) := by decide +kernel
theorem dX1_soldInAll_9 : decode cX1_soldInAll 9 = .ok (.if_icmp .ge 18, 3) := by decide +kernel
theorem dX1_soldInAll_12 : decode cX1_soldInAll 12 = .ok (.iload_n 1, 1) := by decide +kernel
theorem dX1_soldInAll_13 : decode cX1_soldInAll 13 = .ok (.aload_n 0, 1) := by decide +kernel
theorem dX1_soldInAll_14 : decode cX1_soldInAll 14 = .ok (.getfield 18, 3) := by decide +kernel
theorem dX1_soldInAll_17 : decode cX1_soldInAll 17 = .ok (.iload_n 2, 1) := by decide +kernel
theorem dX1_soldInAll_18 : decode cX1_soldInAll 18 = .ok (.iaload, 1) := by decide +kernel
theorem dX1_soldInAll_19 : decode cX1_soldInAll 19 = .ok (.iadd, 1) := by decide +kernel
theorem dX1_soldInAll_20 : decode cX1_soldInAll 20 = .ok (.istore_n 1, 1) := by decide +kernel
theorem dX1_soldInAll_21 : decode cX1_soldInAll 21 = .ok (.iinc 2 1, 3) := by decide +kernel
theorem dX1_soldInAll_24 : decode cX1_soldInAll 24 = .ok (.goto (-20), 3) := by decide +kernel
theorem dX1_soldInAll_27 : decode cX1_soldInAll 27 = .ok (.iload_n 1, 1) := by decide +kernel
theorem dX1_soldInAll_28 : decode cX1_soldInAll 28 = .ok (.ireturn, 1) := by decide +kernel
theorem dX1_meanStop_0 : decode cX1_meanStop 0 = .ok (.iconst 0, 1) := by decide +kernel
theorem dX1_meanStop_1 : decode cX1_meanStop 1 = .ok (.istore_n 1, 1) := by decide +kernel
theorem dX1_meanStop_2 : decode cX1_meanStop 2 = .ok (.iconst 0, 1) := by decide +kernel
theorem dX1_meanStop_3 : decode cX1_meanStop 3 = .ok (.istore_n 2, 1) := by decide +kernel
theorem dX1_meanStop_4 : decode cX1_meanStop 4 = .ok (.iconst 0, 1) := by decide +kernel
theorem dX1_meanStop_5 : decode cX1_meanStop 5 = .ok (.istore_n 3, 1) := by decide +kernel
theorem dX1_meanStop_6 : decode cX1_meanStop 6 = .ok (.iload_n 3, 1) := by decide +kernel
theorem dX1_meanStop_7 : decode cX1_meanStop 7 = .ok (.aload_n 0, 1) := by decide +kernel
theorem dX1_meanStop_8 : decode cX1_meanStop 8 = .ok (.getfield 25, 3) := by decide +kernel
theorem dX1_meanStop_11 : decode cX1_meanStop 11 = .ok (.if_icmp .ge 32, 3) := by decide +kernel
theorem dX1_meanStop_14 : decode cX1_meanStop 14 = .ok (.aload_n 0, 1) := by decide +kernel
theorem dX1_meanStop_15 : decode cX1_meanStop 15 = .ok (.getfield 9, 3) := by decide +kernel
theorem dX1_meanStop_18 : decode cX1_meanStop 18 = .ok (.iload_n 3, 1) := by decide +kernel
theorem dX1_meanStop_19 : decode cX1_meanStop 19 = .ok (.iaload, 1) := by decide +kernel
theorem dX1_meanStop_20 : decode cX1_meanStop 20 = .ok (.bipush (-2), 2) := by decide +kernel
theorem dX1_meanStop_22 : decode cX1_meanStop 22 = .ok (.if_icmp .eq 15, 3) := by decide +kernel
theorem dX1_meanStop_25 : decode cX1_meanStop 25 = .ok (.iload_n 1, 1) := by decide +kernel
theorem dX1_meanStop_26 : decode cX1_meanStop 26 = .ok (.aload_n 0, 1) := by decide +kernel
theorem dX1_meanStop_27 : decode cX1_meanStop 27 = .ok (.getfield 9, 3) := by decide +kernel
theorem dX1_meanStop_30 : decode cX1_meanStop 30 = .ok (.iload_n 3, 1) := by decide +kernel
theorem dX1_meanStop_31 : decode cX1_meanStop 31 = .ok (.iaload, 1) := by decide +kernel
theorem dX1_meanStop_32 : decode cX1_meanStop 32 = .ok (.iadd, 1) := by decide +kernel
theorem dX1_meanStop_33 : decode cX1_meanStop 33 = .ok (.istore_n 1, 1) := by decide +kernel
theorem dX1_meanStop_34 : decode cX1_meanStop 34 = .ok (.iinc 2 1, 3) := by decide +kernel
theorem dX1_meanStop_37 : decode cX1_meanStop 37 = .ok (.iinc 3 1, 3) := by decide +kernel
theorem dX1_meanStop_40 : decode cX1_meanStop 40 = .ok (.goto (-34), 3) := by decide +kernel
theorem dX1_meanStop_43 : decode cX1_meanStop 43 = .ok (.iload_n 2, 1) := by decide +kernel
theorem dX1_meanStop_44 : decode cX1_meanStop 44 = .ok (.ifCond .le 9, 3) := by decide +kernel
theorem dX1_meanStop_47 : decode cX1_meanStop 47 = .ok (.iload_n 1, 1) := by decide +kernel
theorem dX1_meanStop_48 : decode cX1_meanStop 48 = .ok (.iload_n 2, 1) := by decide +kernel
theorem dX1_meanStop_49 : decode cX1_meanStop 49 = .ok (.idiv, 1) := by decide +kernel
theorem dX1_meanStop_50 : decode cX1_meanStop 50 = .ok (.goto 5, 3) := by decide +kernel
theorem dX1_meanStop_53 : decode cX1_meanStop 53 = .ok (.bipush (-2), 2) := by decide +kernel
theorem dX1_meanStop_55 : decode cX1_meanStop 55 = .ok (.ireturn, 1) := by decide +kernel
theorem dX1_greatestStop_0 : decode cX1_greatestStop 0 = .ok (.bipush (-2), 2) := by decide +kernel
theorem dX1_greatestStop_2 : decode cX1_greatestStop 2 = .ok (.istore_n 1, 1) := by decide +kernel
theorem dX1_greatestStop_3 : decode cX1_greatestStop 3 = .ok (.iconst 0, 1) := by decide +kernel
theorem dX1_greatestStop_4 : decode cX1_greatestStop 4 = .ok (.istore_n 2, 1) := by decide +kernel
theorem dX1_greatestStop_5 : decode cX1_greatestStop 5 = .ok (.iload_n 2, 1) := by decide +kernel
theorem dX1_greatestStop_6 : decode cX1_greatestStop 6 = .ok (.aload_n 0, 1) := by decide +kernel
theorem dX1_greatestStop_7 : decode cX1_greatestStop 7 = .ok (.getfield 25, 3) := by decide +kernel
theorem dX1_greatestStop_10 : decode cX1_greatestStop 10 = .ok (.if_icmp .ge 20, 3) := by decide +kernel
theorem dX1_greatestStop_13 : decode cX1_greatestStop 13 = .ok (.iload_n 1, 1) := by decide +kernel
theorem dX1_greatestStop_14 : decode cX1_greatestStop 14 = .ok (.aload_n 0, 1) := by decide +kernel
theorem dX1_greatestStop_15 : decode cX1_greatestStop 15 = .ok (.getfield 9, 3) := by decide +kernel
theorem dX1_greatestStop_18 : decode cX1_greatestStop 18 = .ok (.iload_n 2, 1) := by decide +kernel
theorem dX1_greatestStop_19 : decode cX1_greatestStop 19 = .ok (.iaload, 1) := by decide +kernel
theorem dX1_greatestStop_20 : decode cX1_greatestStop 20 = .ok (.invokestatic 35, 3) := by decide +kernel
theorem dX1_greatestStop_23 : decode cX1_greatestStop 23 = .ok (.istore_n 1, 1) := by decide +kernel
theorem dX1_greatestStop_24 : decode cX1_greatestStop 24 = .ok (.iinc 2 1, 3) := by decide +kernel
theorem dX1_greatestStop_27 : decode cX1_greatestStop 27 = .ok (.goto (-22), 3) := by decide +kernel
theorem dX1_greatestStop_30 : decode cX1_greatestStop 30 = .ok (.iload_n 1, 1) := by decide +kernel
theorem dX1_greatestStop_31 : decode cX1_greatestStop 31 = .ok (.ireturn, 1) := by decide +kernel
theorem dX1_leastStop_0 : decode cX1_leastStop 0 = .ok (.bipush (-2), 2) := by decide +kernel
theorem dX1_leastStop_2 : decode cX1_leastStop 2 = .ok (.istore_n 1, 1) := by decide +kernel
theorem dX1_leastStop_3 : decode cX1_leastStop 3 = .ok (.iconst 0, 1) := by decide +kernel
theorem dX1_leastStop_4 : decode cX1_leastStop 4 = .ok (.istore_n 2, 1) := by decide +kernel
theorem dX1_leastStop_5 : decode cX1_leastStop 5 = .ok (.iload_n 2, 1) := by decide +kernel
theorem dX1_leastStop_6 : decode cX1_leastStop 6 = .ok (.aload_n 0, 1) := by decide +kernel
theorem dX1_leastStop_7 : decode cX1_leastStop 7 = .ok (.getfield 25, 3) := by decide +kernel
theorem dX1_leastStop_10 : decode cX1_leastStop 10 = .ok (.if_icmp .ge 43, 3) := by decide +kernel
theorem dX1_leastStop_13 : decode cX1_leastStop 13 = .ok (.aload_n 0, 1) := by decide +kernel
theorem dX1_leastStop_14 : decode cX1_leastStop 14 = .ok (.getfield 9, 3) := by decide +kernel
theorem dX1_leastStop_17 : decode cX1_leastStop 17 = .ok (.iload_n 2, 1) := by decide +kernel
theorem dX1_leastStop_18 : decode cX1_leastStop 18 = .ok (.iaload, 1) := by decide +kernel
theorem dX1_leastStop_19 : decode cX1_leastStop 19 = .ok (.bipush (-2), 2) := by decide +kernel
theorem dX1_leastStop_21 : decode cX1_leastStop 21 = .ok (.if_icmp .eq 26, 3) := by decide +kernel
theorem dX1_leastStop_24 : decode cX1_leastStop 24 = .ok (.iload_n 1, 1) := by decide +kernel
theorem dX1_leastStop_25 : decode cX1_leastStop 25 = .ok (.bipush (-2), 2) := by decide +kernel
theorem dX1_leastStop_27 : decode cX1_leastStop 27 = .ok (.if_icmp .eq 13, 3) := by decide +kernel
theorem dX1_leastStop_30 : decode cX1_leastStop 30 = .ok (.aload_n 0, 1) := by decide +kernel
theorem dX1_leastStop_31 : decode cX1_leastStop 31 = .ok (.getfield 9, 3) := by decide +kernel
theorem dX1_leastStop_34 : decode cX1_leastStop 34 = .ok (.iload_n 2, 1) := by decide +kernel
theorem dX1_leastStop_35 : decode cX1_leastStop 35 = .ok (.iaload, 1) := by decide +kernel
theorem dX1_leastStop_36 : decode cX1_leastStop 36 = .ok (.iload_n 1, 1) := by decide +kernel
theorem dX1_leastStop_37 : decode cX1_leastStop 37 = .ok (.if_icmp .ge 10, 3) := by decide +kernel
theorem dX1_leastStop_40 : decode cX1_leastStop 40 = .ok (.aload_n 0, 1) := by decide +kernel
theorem dX1_leastStop_41 : decode cX1_leastStop 41 = .ok (.getfield 9, 3) := by decide +kernel
theorem dX1_leastStop_44 : decode cX1_leastStop 44 = .ok (.iload_n 2, 1) := by decide +kernel
theorem dX1_leastStop_45 : decode cX1_leastStop 45 = .ok (.iaload, 1) := by decide +kernel
theorem dX1_leastStop_46 : decode cX1_leastStop 46 = .ok (.istore_n 1, 1) := by decide +kernel
theorem dX1_leastStop_47 : decode cX1_leastStop 47 = .ok (.iinc 2 1, 3) := by decide +kernel
theorem dX1_leastStop_50 : decode cX1_leastStop 50 = .ok (.goto (-45), 3) := by decide +kernel
theorem dX1_leastStop_53 : decode cX1_leastStop 53 = .ok (.iload_n 1, 1) := by decide +kernel
theorem dX1_leastStop_54 : decode cX1_leastStop 54 = .ok (.ireturn, 1) := by decide +kernel
