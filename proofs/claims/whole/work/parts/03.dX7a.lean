theorem dX7_init_0 : decode cX7_init 0 = .ok (.aload_n 0, 1) := by decide +kernel
theorem dX7_init_1 : decode cX7_init 1 = .ok (.invokespecial 1, 3) := by decide +kernel
theorem dX7_init_4 : decode cX7_init 4 = .ok (.aload_n 0, 1) := by decide +kernel
theorem dX7_init_5 : decode cX7_init 5 = .ok (.new 7, 3) := by decide +kernel
theorem dX7_init_8 : decode cX7_init 8 = .ok (.dup, 1) := by decide +kernel
theorem dX7_init_9 : decode cX7_init 9 = .ok (.invokespecial 9, 3) := by decide +kernel
theorem dX7_init_12 : decode cX7_init 12 = .ok (.putfield 10, 3) := by decide +kernel
theorem dX7_init_15 : decode cX7_init 15 = .ok (.aload_n 0, 1) := by decide +kernel
theorem dX7_init_16 : decode cX7_init 16 = .ok (.new 16, 3) := by decide +kernel
theorem dX7_init_19 : decode cX7_init 19 = .ok (.dup, 1) := by decide +kernel
theorem dX7_init_20 : decode cX7_init 20 = .ok (.aload_n 0, 1) := by decide +kernel
theorem dX7_init_21 : decode cX7_init 21 = .ok (.getfield 10, 3) := by decide +kernel
theorem dX7_init_24 : decode cX7_init 24 = .ok (.invokespecial 18, 3) := by decide +kernel
theorem dX7_init_27 : decode cX7_init 27 = .ok (.putfield 21, 3) := by decide +kernel
theorem dX7_init_30 : decode cX7_init 30 = .ok (.aload_n 0, 1) := by decide +kernel
theorem dX7_init_31 : decode cX7_init 31 = .ok (.new 7, 3) := by decide +kernel
theorem dX7_init_34 : decode cX7_init 34 = .ok (.dup, 1) := by decide +kernel
theorem dX7_init_35 : decode cX7_init 35 = .ok (.invokespecial 9, 3) := by decide +kernel
theorem dX7_init_38 : decode cX7_init 38 = .ok (.putfield 25, 3) := by decide +kernel
theorem dX7_init_41 : decode cX7_init 41 = .ok (.aload_n 0, 1) := by decide +kernel
theorem dX7_init_42 : decode cX7_init 42 = .ok (.new 16, 3) := by decide +kernel
theorem dX7_init_45 : decode cX7_init 45 = .ok (.dup, 1) := by decide +kernel
theorem dX7_init_46 : decode cX7_init 46 = .ok (.aload_n 0, 1) := by decide +kernel
theorem dX7_init_47 : decode cX7_init 47 = .ok (.getfield 25, 3) := by decide +kernel
theorem dX7_init_50 : decode cX7_init 50 = .ok (.invokespecial 18, 3) := by decide +kernel
theorem dX7_init_53 : decode cX7_init 53 = .ok (.putfield 28, 3) := by decide +kernel
theorem dX7_init_56 : decode cX7_init 56 = .ok (.aload_n 0, 1) := by decide +kernel
theorem dX7_init_57 : decode cX7_init 57 = .ok (.new 31, 3) := by decide +kernel
theorem dX7_init_60 : decode cX7_init 60 = .ok (.dup, 1) := by decide +kernel
theorem dX7_init_61 : decode cX7_init 61 = .ok (.invokespecial 33, 3) := by decide +kernel
theorem dX7_init_64 : decode cX7_init 64 = .ok (.putfield 34, 3) := by decide +kernel
theorem dX7_init_67 : decode cX7_init 67 = .ok (.aload_n 0, 1) := by decide +kernel
theorem dX7_init_68 : decode cX7_init 68 = .ok (.new 38, 3) := by decide +kernel
theorem dX7_init_71 : decode cX7_init 71 = .ok (.dup, 1) := by decide +kernel
theorem dX7_init_72 : decode cX7_init 72 = .ok (.invokespecial 40, 3) := by decide +kernel
theorem dX7_init_75 : decode cX7_init 75 = .ok (.putfield 41, 3) := by decide +kernel
theorem dX7_init_78 : decode cX7_init 78 = .ok (.aload_n 0, 1) := by decide +kernel
theorem dX7_init_79 : decode cX7_init 79 = .ok (.new 45, 3) := by decide +kernel
theorem dX7_init_82 : decode cX7_init 82 = .ok (.dup, 1) := by decide +kernel
theorem dX7_init_83 : decode cX7_init 83 = .ok (.aload_n 0, 1) := by decide +kernel
theorem dX7_init_84 : decode cX7_init 84 = .ok (.getfield 41, 3) := by decide +kernel
theorem dX7_init_87 : decode cX7_init 87 = .ok (.aload_n 0, 1) := by decide +kernel
theorem dX7_init_88 : decode cX7_init 88 = .ok (.getfield 25, 3) := by decide +kernel
theorem dX7_init_91 : decode cX7_init 91 = .ok (.invokespecial 47, 3) := by decide +kernel
theorem dX7_init_94 : decode cX7_init 94 = .ok (.putfield 50, 3) := by decide +kernel
theorem dX7_init_97 : decode cX7_init 97 = .ok (.aload_n 0, 1) := by decide +kernel
theorem dX7_init_98 : decode cX7_init 98 = .ok (.new 54, 3) := by decide +kernel
theorem dX7_init_101 : decode cX7_init 101 = .ok (.dup, 1) := by decide +kernel
theorem dX7_init_102 : decode cX7_init 102 = .ok (.invokespecial 56, 3) := by decide +kernel
theorem dX7_init_105 : decode cX7_init 105 = .ok (.putfield 57, 3) := by decide +kernel
theorem dX7_init_108 : decode cX7_init 108 = .ok (.return_, 1) := by decide +kernel
theorem dX7_feed_0 : decode cX7_feed 0 = .ok (.aload_n 0, 1) := by decide +kernel
theorem dX7_feed_1 : decode cX7_feed 1 = .ok (.getfield 41, 3) := by decide +kernel
theorem dX7_feed_4 : decode cX7_feed 4 = .ok (.invokevirtual 61, 3) := by decide +kernel
theorem dX7_feed_7 : decode cX7_feed 7 = .ok (.ifCond .ne 5, 3) := by decide +kernel
theorem dX7_feed_10 : decode cX7_feed 10 = .ok (.iconst (-1), 1) := by decide +kernel
theorem dX7_feed_11 : decode cX7_feed 11 = .ok (.ireturn, 1) := by decide +kernel
theorem dX7_feed_12 : decode cX7_feed 12 = .ok (.aload_n 0, 1) := by decide +kernel
theorem dX7_feed_13 : decode cX7_feed 13 = .ok (.getfield 41, 3) := by decide +kernel
theorem dX7_feed_16 : decode cX7_feed 16 = .ok (.iload_n 1, 1) := by decide +kernel
theorem dX7_feed_17 : decode cX7_feed 17 = .ok (.invokevirtual 65, 3) := by decide +kernel
theorem dX7_feed_20 : decode cX7_feed 20 = .ok (.aload_n 0, 1) := by decide +kernel
theorem dX7_feed_21 : decode cX7_feed 21 = .ok (.getfield 41, 3) := by decide +kernel
theorem dX7_feed_24 : decode cX7_feed 24 = .ok (.iload_n 2, 1) := by decide +kernel
theorem dX7_feed_25 : decode cX7_feed 25 = .ok (.invokevirtual 65, 3) := by decide +kernel
theorem dX7_feed_28 : decode cX7_feed 28 = .ok (.aload_n 0, 1) := by decide +kernel
theorem dX7_feed_29 : decode cX7_feed 29 = .ok (.getfield 41, 3) := by decide +kernel
theorem dX7_feed_32 : decode cX7_feed 32 = .ok (.iload_n 3, 1) := by decide +kernel
theorem dX7_feed_33 : decode cX7_feed 33 = .ok (.invokevirtual 65, 3) := by decide +kernel
theorem dX7_feed_36 : decode cX7_feed 36 = .ok (.aload_n 0, 1) := by decide +kernel
theorem dX7_feed_37 : decode cX7_feed 37 = .ok (.getfield 41, 3) := by decide +kernel
theorem dX7_feed_40 : decode cX7_feed 40 = .ok (.iload 4, 2) := by decide +kernel
theorem dX7_feed_42 : decode cX7_feed 42 = .ok (.invokevirtual 65, 3) := by decide +kernel
theorem dX7_feed_45 : decode cX7_feed 45 = .ok (.aload_n 0, 1) := by decide +kernel
theorem dX7_feed_46 : decode cX7_feed 46 = .ok (.getfield 41, 3) := by decide +kernel
theorem dX7_feed_49 : decode cX7_feed 49 = .ok (.iload 5, 2) := by decide +kernel
theorem dX7_feed_51 : decode cX7_feed 51 = .ok (.invokevirtual 65, 3) := by decide +kernel
theorem dX7_feed_54 : decode cX7_feed 54 = .ok (.aload_n 0, 1) := by decide +kernel
theorem dX7_feed_55 : decode cX7_feed 55 = .ok (.getfield 41, 3) := by decide +kernel
theorem dX7_feed_58 : decode cX7_feed 58 = .ok (.getfield 69, 3) := by decide +kernel
theorem dX7_feed_61 : decode cX7_feed 61 = .ok (.ireturn, 1) := by decide +kernel
theorem dX7_back_0 : decode cX7_back 0 = .ok (.iload_n 1, 1) := by decide +kernel
theorem dX7_back_1 : decode cX7_back 1 = .ok (.ifCond .lt 14, 3) := by decide +kernel
theorem dX7_back_4 : decode cX7_back 4 = .ok (.iload_n 1, 1) := by decide +kernel
theorem dX7_back_5 : decode cX7_back 5 = .ok (.aload_n 0, 1) := by decide +kernel
theorem dX7_back_6 : decode cX7_back 6 = .ok (.getfield 41, 3) := by decide +kernel
theorem dX7_back_9 : decode cX7_back 9 = .ok (.getfield 69, 3) := by decide +kernel
theorem dX7_back_12 : decode cX7_back 12 = .ok (.if_icmp .le 5, 3) := by decide +kernel
theorem dX7_back_15 : decode cX7_back 15 = .ok (.iconst (-1), 1) := by decide +kernel
theorem dX7_back_16 : decode cX7_back 16 = .ok (.ireturn, 1) := by decide +kernel
theorem dX7_back_17 : decode cX7_back 17 = .ok (.aload_n 0, 1) := by decide +kernel
theorem dX7_back_18 : decode cX7_back 18 = .ok (.getfield 41, 3) := by decide +kernel
theorem dX7_back_21 : decode cX7_back 21 = .ok (.dup, 1) := by decide +kernel
theorem dX7_back_22 : decode cX7_back 22 = .ok (.getfield 69, 3) := by decide +kernel
theorem dX7_back_25 : decode cX7_back 25 = .ok (.iload_n 1, 1) := by decide +kernel
theorem dX7_back_26 : decode cX7_back 26 = .ok (.isub, 1) := by decide +kernel
theorem dX7_back_27 : decode cX7_back 27 = .ok (.putfield 69, 3) := by decide +kernel
theorem dX7_back_30 : decode cX7_back 30 = .ok (.aload_n 0, 1) := by decide +kernel
theorem dX7_back_31 : decode cX7_back 31 = .ok (.getfield 41, 3) := by decide +kernel
theorem dX7_back_34 : decode cX7_back 34 = .ok (.getfield 69, 3) := by decide +kernel
theorem dX7_back_37 : decode cX7_back 37 = .ok (.ireturn, 1) := by decide +kernel
theorem dX7_text_0 : decode cX7_text 0 = .ok (.aload_n 0, 1) := by decide +kernel
theorem dX7_text_1 : decode cX7_text 1 = .ok (.getfield 50, 3) := by decide +kernel
theorem dX7_text_4 : decode cX7_text 4 = .ok (.invokevirtual 73, 3) := by decide +kernel
theorem dX7_text_7 : decode cX7_text 7 = .ok (.istore_n 1, 1) := by decide +kernel
theorem dX7_text_8 : decode cX7_text 8 = .ok (.aload_n 0, 1) := by decide +kernel
theorem dX7_text_9 : decode cX7_text 9 = .ok (.getfield 41, 3) := by decide +kernel
theorem dX7_text_12 : decode cX7_text 12 = .ok (.iconst 0, 1) := by decide +kernel
theorem dX7_text_13 : decode cX7_text 13 = .ok (.putfield 69, 3) := by decide +kernel
theorem dX7_text_16 : decode cX7_text 16 = .ok (.iload_n 1, 1) := by decide +kernel
theorem dX7_text_17 : decode cX7_text 17 = .ok (.iconst (-1), 1) := by decide +kernel
theorem dX7_text_18 : decode cX7_text 18 = .ok (.if_icmp .eq 8, 3) := by decide +kernel
theorem dX7_text_21 : decode cX7_text 21 = .ok (.bipush (-4), 2) := by decide +kernel
theorem dX7_text_23 : decode cX7_text 23 = .ok (.iload_n 1, 1) := by decide +kernel
theorem dX7_text_24 : decode cX7_text 24 = .ok (.isub, 1) := by decide +kernel
theorem dX7_text_25 : decode cX7_text 25 = .ok (.ireturn, 1) := by decide +kernel
theorem dX7_text_26 : decode cX7_text 26 = .ok (.aload_n 0, 1) := by decide +kernel
theorem dX7_text_27 : decode cX7_text 27 = .ok (.getfield 10, 3) := by decide +kernel
theorem dX7_text_30 : decode cX7_text 30 = .ok (.aload_n 0, 1) := by decide +kernel
theorem dX7_text_31 : decode cX7_text 31 = .ok (.getfield 25, 3) := by decide +kernel
theorem dX7_text_34 : decode cX7_text 34 = .ok (.invokevirtual 77, 3) := by decide +kernel
theorem dX7_text_37 : decode cX7_text 37 = .ok (.aload_n 0, 1) := by decide +kernel
theorem dX7_text_38 : decode cX7_text 38 = .ok (.getfield 34, 3) := by decide +kernel
theorem dX7_text_41 : decode cX7_text 41 = .ok (.invokevirtual 80, 3) := by decide +kernel
theorem dX7_text_44 : decode cX7_text 44 = .ok (.aload_n 0, 1) := by decide +kernel
theorem dX7_text_45 : decode cX7_text 45 = .ok (.getfield 10, 3) := by decide +kernel
theorem dX7_text_48 : decode cX7_text 48 = .ok (.getfield 83, 3) := by decide +kernel
theorem dX7_text_51 : decode cX7_text 51 = .ok (.ireturn, 1) := by decide +kernel
theorem dX7_bid_0 : decode cX7_bid 0 = .ok (.iload_n 2, 1) := by decide +kernel
theorem dX7_bid_1 : decode cX7_bid 1 = .ok (.iconst (-1), 1) := by decide +kernel
theorem dX7_bid_2 : decode cX7_bid 2 = .ok (.if_icmp .eq 10, 3) := by decide +kernel
theorem dX7_bid_5 : decode cX7_bid 5 = .ok (.iload_n 2, 1) := by decide +kernel
theorem dX7_bid_6 : decode cX7_bid 6 = .ok (.invokestatic 86, 3) := by decide +kernel
theorem dX7_bid_9 : decode cX7_bid 9 = .ok (.ifCond .eq 7, 3) := by decide +kernel
theorem dX7_bid_12 : decode cX7_bid 12 = .ok (.iconst 1, 1) := by decide +kernel
theorem dX7_bid_13 : decode cX7_bid 13 = .ok (.goto 4, 3) := by decide +kernel
theorem dX7_bid_16 : decode cX7_bid 16 = .ok (.iconst 0, 1) := by decide +kernel
theorem dX7_bid_17 : decode cX7_bid 17 = .ok (.istore 4, 2) := by decide +kernel
theorem dX7_bid_19 : decode cX7_bid 19 = .ok (.iload_n 1, 1) := by decide +kernel
theorem dX7_bid_20 : decode cX7_bid 20 = .ok (.invokestatic 90, 3) := by decide +kernel
theorem dX7_bid_23 : decode cX7_bid 23 = .ok (.ifCond .eq 27, 3) := by decide +kernel
theorem dX7_bid_26 : decode cX7_bid 26 = .ok (.iload 4, 2) := by decide +kernel
theorem dX7_bid_28 : decode cX7_bid 28 = .ok (.ifCond .eq 22, 3) := by decide +kernel
theorem dX7_bid_31 : decode cX7_bid 31 = .ok (.iload_n 3, 1) := by decide +kernel
theorem dX7_bid_32 : decode cX7_bid 32 = .ok (.invokestatic 93, 3) := by decide +kernel
theorem dX7_bid_35 : decode cX7_bid 35 = .ok (.ifCond .eq 15, 3) := by decide +kernel
theorem dX7_bid_38 : decode cX7_bid 38 = .ok (.aload_n 0, 1) := by decide +kernel
theorem dX7_bid_39 : decode cX7_bid 39 = .ok (.getfield 10, 3) := by decide +kernel
theorem dX7_bid_42 : decode cX7_bid 42 = .ok (.getfield 83, 3) := by decide +kernel
theorem dX7_bid_45 : decode cX7_bid 45 = .ok (.bipush 30, 2) := by decide +kernel
theorem dX7_bid_47 : decode cX7_bid 47 = .ok (.if_icmp .lt 5, 3) := by decide +kernel
theorem dX7_bid_50 : decode cX7_bid 50 = .ok (.iconst (-1), 1) := by decide +kernel
theorem dX7_bid_51 : decode cX7_bid 51 = .ok (.ireturn, 1) := by decide +kernel
theorem dX7_bid_52 : decode cX7_bid 52 = .ok (.aload_n 0, 1) := by decide +kernel
theorem dX7_bid_53 : decode cX7_bid 53 = .ok (.getfield 34, 3) := by decide +kernel
theorem dX7_bid_56 : decode cX7_bid 56 = .ok (.aload_n 0, 1) := by decide +kernel
theorem dX7_bid_57 : decode cX7_bid 57 = .ok (.getfield 10, 3) := by decide +kernel
theorem dX7_bid_60 : decode cX7_bid 60 = .ok (.invokevirtual 96, 3) := by decide +kernel
theorem dX7_bid_63 : decode cX7_bid 63 = .ok (.aload_n 0, 1) := by decide +kernel
theorem dX7_bid_64 : decode cX7_bid 64 = .ok (.getfield 10, 3) := by decide +kernel
theorem dX7_bid_67 : decode cX7_bid 67 = .ok (.aload_n 0, 1) := by decide +kernel
theorem dX7_bid_68 : decode cX7_bid 68 = .ok (.getfield 10, 3) := by decide +kernel
theorem dX7_bid_71 : decode cX7_bid 71 = .ok (.getfield 83, 3) := by decide +kernel
theorem dX7_bid_74 : decode cX7_bid 74 = .ok (.iload_n 1, 1) := by decide +kernel
theorem dX7_bid_75 : decode cX7_bid 75 = .ok (.iload_n 2, 1) := by decide +kernel
theorem dX7_bid_76 : decode cX7_bid 76 = .ok (.iconst (-1), 1) := by decide +kernel
theorem dX7_bid_77 : decode cX7_bid 77 = .ok (.if_icmp .ne 7, 3) := by decide +kernel
theorem dX7_bid_80 : decode cX7_bid 80 = .ok (.iconst (-1), 1) := by decide +kernel
theorem dX7_bid_81 : decode cX7_bid 81 = .ok (.goto 4, 3) := by decide +kernel
theorem dX7_bid_84 : decode cX7_bid 84 = .ok (.iload_n 2, 1) := by decide +kernel
theorem dX7_bid_85 : decode cX7_bid 85 = .ok (.iload_n 3, 1) := by decide +kernel
theorem dX7_bid_86 : decode cX7_bid 86 = .ok (.invokevirtual 99, 3) := by decide +kernel
theorem dX7_bid_89 : decode cX7_bid 89 = .ok (.aload_n 0, 1) := by decide +kernel
theorem dX7_bid_90 : decode cX7_bid 90 = .ok (.getfield 10, 3) := by decide +kernel
theorem dX7_bid_93 : decode cX7_bid 93 = .ok (.getfield 83, 3) := by decide +kernel
theorem dX7_bid_96 : decode cX7_bid 96 = .ok (.iconst 1, 1) := by decide +kernel
theorem dX7_bid_97 : decode cX7_bid 97 = .ok (.isub, 1) := by decide +kernel
theorem dX7_bid_98 : decode cX7_bid 98 = .ok (.ireturn, 1) := by decide +kernel
theorem dX7_withdraw_0 : decode cX7_withdraw 0 = .ok (.aload_n 0, 1) := by decide +kernel
theorem dX7_withdraw_1 : decode cX7_withdraw 1 = .ok (.getfield 10, 3) := by decide +kernel
theorem dX7_withdraw_4 : decode cX7_withdraw 4 = .ok (.iload_n 1, 1) := by decide +kernel
theorem dX7_withdraw_5 : decode cX7_withdraw 5 = .ok (.invokevirtual 103, 3) := by decide +kernel
theorem dX7_withdraw_8 : decode cX7_withdraw 8 = .ok (.ifCond .ne 5, 3) := by decide +kernel
theorem dX7_withdraw_11 : decode cX7_withdraw 11 = .ok (.iconst 0, 1) := by decide +kernel
theorem dX7_withdraw_12 : decode cX7_withdraw 12 = .ok (.ireturn, 1) := by decide +kernel
theorem dX7_withdraw_13 : decode cX7_withdraw 13 = .ok (.aload_n 0, 1) := by decide +kernel
theorem dX7_withdraw_14 : decode cX7_withdraw 14 = .ok (.getfield 34, 3) := by decide +kernel
theorem dX7_withdraw_17 : decode cX7_withdraw 17 = .ok (.aload_n 0, 1) := by decide +kernel
theorem dX7_withdraw_18 : decode cX7_withdraw 18 = .ok (.getfield 10, 3) := by decide +kernel
theorem dX7_withdraw_21 : decode cX7_withdraw 21 = .ok (.invokevirtual 96, 3) := by decide +kernel
theorem dX7_withdraw_24 : decode cX7_withdraw 24 = .ok (.aload_n 0, 1) := by decide +kernel
theorem dX7_withdraw_25 : decode cX7_withdraw 25 = .ok (.getfield 10, 3) := by decide +kernel
theorem dX7_withdraw_28 : decode cX7_withdraw 28 = .ok (.iload_n 1, 1) := by decide +kernel
theorem dX7_withdraw_29 : decode cX7_withdraw 29 = .ok (.invokevirtual 106, 3) := by decide +kernel
theorem dX7_withdraw_32 : decode cX7_withdraw 32 = .ok (.iconst 1, 1) := by decide +kernel
theorem dX7_withdraw_33 : decode cX7_withdraw 33 = .ok (.ireturn, 1) := by decide +kernel
theorem dX7_change_0 : decode cX7_change 0 = .ok (.aload_n 0, 1) := by decide +kernel
theorem dX7_change_1 : decode cX7_change 1 = .ok (.getfield 10, 3) := by decide +kernel
theorem dX7_change_4 : decode cX7_change 4 = .ok (.iload_n 1, 1) := by decide +kernel
theorem dX7_change_5 : decode cX7_change 5 = .ok (.invokevirtual 103, 3) := by decide +kernel
theorem dX7_change_8 : decode cX7_change 8 = .ok (.ifCond .ne 5, 3) := by decide +kernel
theorem dX7_change_11 : decode cX7_change 11 = .ok (.iconst (-1), 1) := by decide +kernel
theorem dX7_change_12 : decode cX7_change 12 = .ok (.ireturn, 1) := by decide +kernel
theorem dX7_change_13 : decode cX7_change 13 = .ok (.iload_n 2, 1) := by decide +kernel
theorem dX7_change_14 : decode cX7_change 14 = .ok (.ifCond .ne 10, 3) := by decide +kernel
theorem dX7_change_17 : decode cX7_change 17 = .ok (.aload_n 0, 1) := by decide +kernel
theorem dX7_change_18 : decode cX7_change 18 = .ok (.iload_n 1, 1) := by decide +kernel
theorem dX7_change_19 : decode cX7_change 19 = .ok (.iload_n 3, 1) := by decide +kernel
theorem dX7_change_20 : decode cX7_change 20 = .ok (.invokevirtual 109, 3) := by decide +kernel
theorem dX7_change_23 : decode cX7_change 23 = .ok (.ireturn, 1) := by decide +kernel
theorem dX7_change_24 : decode cX7_change 24 = .ok (.iload_n 2, 1) := by decide +kernel
theorem dX7_change_25 : decode cX7_change 25 = .ok (.iconst 1, 1) := by decide +kernel
theorem dX7_change_26 : decode cX7_change 26 = .ok (.if_icmp .ne 12, 3) := by decide +kernel
theorem dX7_change_29 : decode cX7_change 29 = .ok (.aload_n 0, 1) := by decide +kernel
theorem dX7_change_30 : decode cX7_change 30 = .ok (.iload_n 1, 1) := by decide +kernel
theorem dX7_change_31 : decode cX7_change 31 = .ok (.iload_n 3, 1) := by decide +kernel
theorem dX7_change_32 : decode cX7_change 32 = .ok (.invokevirtual 113, 3) := by decide +kernel
theorem dX7_change_35 : decode cX7_change 35 = .ok (.goto 4, 3) := by decide +kernel
theorem dX7_change_38 : decode cX7_change 38 = .ok (.iconst (-1), 1) := by decide +kernel
theorem dX7_change_39 : decode cX7_change 39 = .ok (.ireturn, 1) := by decide +kernel
theorem dX7_changeLots_0 : decode cX7_changeLots 0 = .ok (.aload_n 0, 1) := by decide +kernel
theorem dX7_changeLots_1 : decode cX7_changeLots 1 = .ok (.getfield 10, 3) := by decide +kernel
theorem dX7_changeLots_4 : decode cX7_changeLots 4 = .ok (.getfield 116, 3) := by decide +kernel
theorem dX7_changeLots_7 : decode cX7_changeLots 7 = .ok (.iload_n 1, 1) := by decide +kernel
theorem dX7_changeLots_8 : decode cX7_changeLots 8 = .ok (.iaload, 1) := by decide +kernel
theorem dX7_changeLots_9 : decode cX7_changeLots 9 = .ok (.istore_n 3, 1) := by decide +kernel
theorem dX7_changeLots_10 : decode cX7_changeLots 10 = .ok (.iload_n 2, 1) := by decide +kernel
theorem dX7_changeLots_11 : decode cX7_changeLots 11 = .ok (.invokestatic 93, 3) := by decide +kernel
theorem dX7_changeLots_14 : decode cX7_changeLots 14 = .ok (.ifCond .eq 8, 3) := by decide +kernel
theorem dX7_changeLots_17 : decode cX7_changeLots 17 = .ok (.iload_n 2, 1) := by decide +kernel
theorem dX7_changeLots_18 : decode cX7_changeLots 18 = .ok (.iload_n 3, 1) := by decide +kernel
theorem dX7_changeLots_19 : decode cX7_changeLots 19 = .ok (.if_icmp .ne 5, 3) := by decide +kernel
theorem dX7_changeLots_22 : decode cX7_changeLots 22 = .ok (.iconst (-1), 1) := by decide +kernel
theorem dX7_changeLots_23 : decode cX7_changeLots 23 = .ok (.ireturn, 1) := by decide +kernel
theorem dX7_changeLots_24 : decode cX7_changeLots 24 = .ok (.aload_n 0, 1) := by decide +kernel
theorem dX7_changeLots_25 : decode cX7_changeLots 25 = .ok (.getfield 34, 3) := by decide +kernel
theorem dX7_changeLots_28 : decode cX7_changeLots 28 = .ok (.aload_n 0, 1) := by decide +kernel
theorem dX7_changeLots_29 : decode cX7_changeLots 29 = .ok (.getfield 10, 3) := by decide +kernel
theorem dX7_changeLots_32 : decode cX7_changeLots 32 = .ok (.invokevirtual 96, 3) := by decide +kernel
theorem dX7_changeLots_35 : decode cX7_changeLots 35 = .ok (.aload_n 0, 1) := by decide +kernel
theorem dX7_changeLots_36 : decode cX7_changeLots 36 = .ok (.getfield 10, 3) := by decide +kernel
theorem dX7_changeLots_39 : decode cX7_changeLots 39 = .ok (.getfield 116, 3) := by decide +kernel
theorem dX7_changeLots_42 : decode cX7_changeLots 42 = .ok (.iload_n 1, 1) := by decide +kernel
theorem dX7_changeLots_43 : decode cX7_changeLots 43 = .ok (.iload_n 2, 1) := by decide +kernel
theorem dX7_changeLots_44 : decode cX7_changeLots 44 = .ok (.iastore, 1) := by decide +kernel
theorem dX7_changeLots_45 : decode cX7_changeLots 45 = .ok (.iload_n 3, 1) := by decide +kernel
theorem dX7_changeLots_46 : decode cX7_changeLots 46 = .ok (.ireturn, 1) := by decide +kernel
theorem dX7_changeRate_0 : decode cX7_changeRate 0 = .ok (.aload_n 0, 1) := by decide +kernel
theorem dX7_changeRate_1 : decode cX7_changeRate 1 = .ok (.getfield 10, 3) := by decide +kernel
theorem dX7_changeRate_4 : decode cX7_changeRate 4 = .ok (.getfield 120, 3) := by decide +kernel
theorem dX7_changeRate_7 : decode cX7_changeRate 7 = .ok (.iload_n 1, 1) := by decide +kernel
theorem dX7_changeRate_8 : decode cX7_changeRate 8 = .ok (.iaload, 1) := by decide +kernel
theorem dX7_changeRate_9 : decode cX7_changeRate 9 = .ok (.istore_n 3, 1) := by decide +kernel
theorem dX7_changeRate_10 : decode cX7_changeRate 10 = .ok (.iload_n 3, 1) := by decide +kernel
theorem dX7_changeRate_11 : decode cX7_changeRate 11 = .ok (.iconst (-1), 1) := by decide +kernel
theorem dX7_changeRate_12 : decode cX7_changeRate 12 = .ok (.if_icmp .eq 15, 3) := by decide +kernel
theorem dX7_changeRate_15 : decode cX7_changeRate 15 = .ok (.iload_n 2, 1) := by decide +kernel
theorem dX7_changeRate_16 : decode cX7_changeRate 16 = .ok (.invokestatic 86, 3) := by decide +kernel
theorem dX7_changeRate_19 : decode cX7_changeRate 19 = .ok (.ifCond .eq 8, 3) := by decide +kernel
theorem dX7_changeRate_22 : decode cX7_changeRate 22 = .ok (.iload_n 2, 1) := by decide +kernel
theorem dX7_changeRate_23 : decode cX7_changeRate 23 = .ok (.iload_n 3, 1) := by decide +kernel
theorem dX7_changeRate_24 : decode cX7_changeRate 24 = .ok (.if_icmp .ne 5, 3) := by decide +kernel
theorem dX7_changeRate_27 : decode cX7_changeRate 27 = .ok (.iconst (-1), 1) := by decide +kernel
theorem dX7_changeRate_28 : decode cX7_changeRate 28 = .ok (.ireturn, 1) := by decide +kernel
theorem dX7_changeRate_29 : decode cX7_changeRate 29 = .ok (.aload_n 0, 1) := by decide +kernel
theorem dX7_changeRate_30 : decode cX7_changeRate 30 = .ok (.getfield 34, 3) := by decide +kernel
theorem dX7_changeRate_33 : decode cX7_changeRate 33 = .ok (.aload_n 0, 1) := by decide +kernel
theorem dX7_changeRate_34 : decode cX7_changeRate 34 = .ok (.getfield 10, 3) := by decide +kernel
theorem dX7_changeRate_37 : decode cX7_changeRate 37 = .ok (.invokevirtual 96, 3) := by decide +kernel
theorem dX7_changeRate_40 : decode cX7_changeRate 40 = .ok (.aload_n 0, 1) := by decide +kernel
theorem dX7_changeRate_41 : decode cX7_changeRate 41 = .ok (.getfield 10, 3) := by decide +kernel
theorem dX7_changeRate_44 : decode cX7_changeRate 44 = .ok (.getfield 120, 3) := by decide +kernel
theorem dX7_changeRate_47 : decode cX7_changeRate 47 = .ok (.iload_n 1, 1) := by decide +kernel
theorem dX7_changeRate_48 : decode cX7_changeRate 48 = .ok (.iload_n 2, 1) := by decide +kernel
theorem dX7_changeRate_49 : decode cX7_changeRate 49 = .ok (.iastore, 1) := by decide +kernel
theorem dX7_changeRate_50 : decode cX7_changeRate 50 = .ok (.iload_n 3, 1) := by decide +kernel
theorem dX7_changeRate_51 : decode cX7_changeRate 51 = .ok (.ireturn, 1) := by decide +kernel
theorem dX7_term_0 : decode cX7_term 0 = .ok (.aload_n 0, 1) := by decide +kernel
theorem dX7_term_1 : decode cX7_term 1 = .ok (.getfield 10, 3) := by decide +kernel
theorem dX7_term_4 : decode cX7_term 4 = .ok (.iload_n 1, 1) := by decide +kernel
theorem dX7_term_5 : decode cX7_term 5 = .ok (.iload_n 2, 1) := by decide +kernel
theorem dX7_term_6 : decode cX7_term 6 = .ok (.invokevirtual 123, 3) := by decide +kernel
theorem dX7_term_9 : decode cX7_term 9 = .ok (.ifCond .eq 16, 3) := by decide +kernel
theorem dX7_term_12 : decode cX7_term 12 = .ok (.aload_n 0, 1) := by decide +kernel
theorem dX7_term_13 : decode cX7_term 13 = .ok (.getfield 10, 3) := by decide +kernel
theorem dX7_term_16 : decode cX7_term 16 = .ok (.getfield 127, 3) := by decide +kernel
theorem dX7_term_19 : decode cX7_term 19 = .ok (.iload_n 1, 1) := by decide +kernel
theorem dX7_term_20 : decode cX7_term 20 = .ok (.iaload, 1) := by decide +kernel
theorem dX7_term_21 : decode cX7_term 21 = .ok (.iload_n 2, 1) := by decide +kernel
theorem dX7_term_22 : decode cX7_term 22 = .ok (.if_icmp .ne 5, 3) := by decide +kernel
theorem dX7_term_25 : decode cX7_term 25 = .ok (.iconst (-1), 1) := by decide +kernel
theorem dX7_term_26 : decode cX7_term 26 = .ok (.ireturn, 1) := by decide +kernel
theorem dX7_term_27 : decode cX7_term 27 = .ok (.aload_n 0, 1) := by decide +kernel
theorem dX7_term_28 : decode cX7_term 28 = .ok (.getfield 10, 3) := by decide +kernel
theorem dX7_term_31 : decode cX7_term 31 = .ok (.getfield 127, 3) := by decide +kernel
theorem dX7_term_34 : decode cX7_term 34 = .ok (.iload_n 1, 1) := by decide +kernel
theorem dX7_term_35 : decode cX7_term 35 = .ok (.iaload, 1) := by decide +kernel
theorem dX7_term_36 : decode cX7_term 36 = .ok (.istore_n 3, 1) := by decide +kernel
theorem dX7_term_37 : decode cX7_term 37 = .ok (.aload_n 0, 1) := by decide +kernel
theorem dX7_term_38 : decode cX7_term 38 = .ok (.getfield 34, 3) := by decide +kernel
theorem dX7_term_41 : decode cX7_term 41 = .ok (.aload_n 0, 1) := by decide +kernel
theorem dX7_term_42 : decode cX7_term 42 = .ok (.getfield 10, 3) := by decide +kernel
theorem dX7_term_45 : decode cX7_term 45 = .ok (.invokevirtual 96, 3) := by decide +kernel
theorem dX7_term_48 : decode cX7_term 48 = .ok (.aload_n 0, 1) := by decide +kernel
theorem dX7_term_49 : decode cX7_term 49 = .ok (.getfield 10, 3) := by decide +kernel
theorem dX7_term_52 : decode cX7_term 52 = .ok (.getfield 127, 3) := by decide +kernel
theorem dX7_term_55 : decode cX7_term 55 = .ok (.iload_n 1, 1) := by decide +kernel
theorem dX7_term_56 : decode cX7_term 56 = .ok (.iload_n 2, 1) := by decide +kernel
theorem dX7_term_57 : decode cX7_term 57 = .ok (.iastore, 1) := by decide +kernel
theorem dX7_term_58 : decode cX7_term 58 = .ok (.iload_n 3, 1) := by decide +kernel
theorem dX7_term_59 : decode cX7_term 59 = .ok (.ireturn, 1) := by decide +kernel
theorem dX7_own_0 : decode cX7_own 0 = .ok (.iload_n 1, 1) := by decide +kernel
theorem dX7_own_1 : decode cX7_own 1 = .ok (.invokestatic 90, 3) := by decide +kernel
theorem dX7_own_4 : decode cX7_own 4 = .ok (.ifCond .eq 23, 3) := by decide +kernel
theorem dX7_own_7 : decode cX7_own 7 = .ok (.iload_n 2, 1) := by decide +kernel
theorem dX7_own_8 : decode cX7_own 8 = .ok (.invokestatic 90, 3) := by decide +kernel
theorem dX7_own_11 : decode cX7_own 11 = .ok (.ifCond .eq 16, 3) := by decide +kernel
theorem dX7_own_14 : decode cX7_own 14 = .ok (.aload_n 0, 1) := by decide +kernel
theorem dX7_own_15 : decode cX7_own 15 = .ok (.getfield 10, 3) := by decide +kernel
theorem dX7_own_18 : decode cX7_own 18 = .ok (.getfield 130, 3) := by decide +kernel
theorem dX7_own_21 : decode cX7_own 21 = .ok (.iload_n 1, 1) := by decide +kernel
theorem dX7_own_22 : decode cX7_own 22 = .ok (.iaload, 1) := by decide +kernel
theorem dX7_own_23 : decode cX7_own 23 = .ok (.iload_n 2, 1) := by decide +kernel
theorem dX7_own_24 : decode cX7_own 24 = .ok (.if_icmp .ne 5, 3) := by decide +kernel
theorem dX7_own_27 : decode cX7_own 27 = .ok (.iconst (-1), 1) := by decide +kernel
theorem dX7_own_28 : decode cX7_own 28 = .ok (.ireturn, 1) := by decide +kernel
theorem dX7_own_29 : decode cX7_own 29 = .ok (.aload_n 0, 1) := by decide +kernel
theorem dX7_own_30 : decode cX7_own 30 = .ok (.getfield 10, 3) := by decide +kernel
theorem dX7_own_33 : decode cX7_own 33 = .ok (.getfield 130, 3) := by decide +kernel
theorem dX7_own_36 : decode cX7_own 36 = .ok (.iload_n 1, 1) := by decide +kernel
theorem dX7_own_37 : decode cX7_own 37 = .ok (.iaload, 1) := by decide +kernel
theorem dX7_own_38 : decode cX7_own 38 = .ok (.istore_n 3, 1) := by decide +kernel
theorem dX7_own_39 : decode cX7_own 39 = .ok (.aload_n 0, 1) := by decide +kernel
theorem dX7_own_40 : decode cX7_own 40 = .ok (.getfield 34, 3) := by decide +kernel
theorem dX7_own_43 : decode cX7_own 43 = .ok (.aload_n 0, 1) := by decide +kernel
theorem dX7_own_44 : decode cX7_own 44 = .ok (.getfield 10, 3) := by decide +kernel
theorem dX7_own_47 : decode cX7_own 47 = .ok (.invokevirtual 96, 3) := by decide +kernel
theorem dX7_own_50 : decode cX7_own 50 = .ok (.aload_n 0, 1) := by decide +kernel
theorem dX7_own_51 : decode cX7_own 51 = .ok (.getfield 10, 3) := by decide +kernel
theorem dX7_own_54 : decode cX7_own 54 = .ok (.getfield 130, 3) := by decide +kernel
theorem dX7_own_57 : decode cX7_own 57 = .ok (.iload_n 1, 1) := by decide +kernel
theorem dX7_own_58 : decode cX7_own 58 = .ok (.iload_n 2, 1) := by decide +kernel
theorem dX7_own_59 : decode cX7_own 59 = .ok (.iastore, 1) := by decide +kernel
theorem dX7_own_60 : decode cX7_own 60 = .ok (.iload_n 3, 1) := by decide +kernel
theorem dX7_own_61 : decode cX7_own 61 = .ok (.ireturn, 1) := by decide +kernel
theorem dX7_split_0 : decode cX7_split 0 = .ok (.aload_n 0, 1) := by decide +kernel
theorem dX7_split_1 : decode cX7_split 1 = .ok (.getfield 10, 3) := by decide +kernel
theorem dX7_split_4 : decode cX7_split 4 = .ok (.iload_n 1, 1) := by decide +kernel
theorem dX7_split_5 : decode cX7_split 5 = .ok (.invokevirtual 103, 3) := by decide +kernel
theorem dX7_split_8 : decode cX7_split 8 = .ok (.ifCond .eq 33, 3) := by decide +kernel
theorem dX7_split_11 : decode cX7_split 11 = .ok (.aload_n 0, 1) := by decide +kernel
theorem dX7_split_12 : decode cX7_split 12 = .ok (.getfield 10, 3) := by decide +kernel
theorem dX7_split_15 : decode cX7_split 15 = .ok (.getfield 83, 3) := by decide +kernel
theorem dX7_split_18 : decode cX7_split 18 = .ok (.bipush 30, 2) := by decide +kernel
theorem dX7_split_20 : decode cX7_split 20 = .ok (.if_icmp .ge 21, 3) := by decide +kernel
theorem dX7_split_23 : decode cX7_split 23 = .ok (.iload_n 2, 1) := by decide +kernel
theorem dX7_split_24 : decode cX7_split 24 = .ok (.iconst 1, 1) := by decide +kernel
theorem dX7_split_25 : decode cX7_split 25 = .ok (.if_icmp .lt 16, 3) := by decide +kernel
theorem dX7_split_28 : decode cX7_split 28 = .ok (.iload_n 2, 1) := by decide +kernel
theorem dX7_split_29 : decode cX7_split 29 = .ok (.aload_n 0, 1) := by decide +kernel
theorem dX7_split_30 : decode cX7_split 30 = .ok (.getfield 10, 3) := by decide +kernel
theorem dX7_split_33 : decode cX7_split 33 = .ok (.getfield 116, 3) := by decide +kernel
theorem dX7_split_36 : decode cX7_split 36 = .ok (.iload_n 1, 1) := by decide +kernel
theorem dX7_split_37 : decode cX7_split 37 = .ok (.iaload, 1) := by decide +kernel
theorem dX7_split_38 : decode cX7_split 38 = .ok (.if_icmp .lt 5, 3) := by decide +kernel
theorem dX7_split_41 : decode cX7_split 41 = .ok (.iconst 0, 1) := by decide +kernel
theorem dX7_split_42 : decode cX7_split 42 = .ok (.ireturn, 1) := by decide +kernel
theorem dX7_split_43 : decode cX7_split 43 = .ok (.aload_n 0, 1) := by decide +kernel
theorem dX7_split_44 : decode cX7_split 44 = .ok (.getfield 34, 3) := by decide +kernel
theorem dX7_split_47 : decode cX7_split 47 = .ok (.aload_n 0, 1) := by decide +kernel
theorem dX7_split_48 : decode cX7_split 48 = .ok (.getfield 10, 3) := by decide +kernel
theorem dX7_split_51 : decode cX7_split 51 = .ok (.invokevirtual 96, 3) := by decide +kernel
theorem dX7_split_54 : decode cX7_split 54 = .ok (.aload_n 0, 1) := by decide +kernel
theorem dX7_split_55 : decode cX7_split 55 = .ok (.getfield 10, 3) := by decide +kernel
theorem dX7_split_58 : decode cX7_split 58 = .ok (.iload_n 1, 1) := by decide +kernel
theorem dX7_split_59 : decode cX7_split 59 = .ok (.iconst 1, 1) := by decide +kernel
theorem dX7_split_60 : decode cX7_split 60 = .ok (.iadd, 1) := by decide +kernel
theorem dX7_split_61 : decode cX7_split 61 = .ok (.aload_n 0, 1) := by decide +kernel
theorem dX7_split_62 : decode cX7_split 62 = .ok (.getfield 10, 3) := by decide +kernel
theorem dX7_split_65 : decode cX7_split 65 = .ok (.getfield 133, 3) := by decide +kernel
theorem dX7_split_68 : decode cX7_split 68 = .ok (.iload_n 1, 1) := by decide +kernel
theorem dX7_split_69 : decode cX7_split 69 = .ok (.iaload, 1) := by decide +kernel
theorem dX7_split_70 : decode cX7_split 70 = .ok (.aload_n 0, 1) := by decide +kernel
theorem dX7_split_71 : decode cX7_split 71 = .ok (.getfield 10, 3) := by decide +kernel
theorem dX7_split_74 : decode cX7_split 74 = .ok (.getfield 120, 3) := by decide +kernel
theorem dX7_split_77 : decode cX7_split 77 = .ok (.iload_n 1, 1) := by decide +kernel
theorem dX7_split_78 : decode cX7_split 78 = .ok (.iaload, 1) := by decide +kernel
theorem dX7_split_79 : decode cX7_split 79 = .ok (.aload_n 0, 1) := by decide +kernel
theorem dX7_split_80 : decode cX7_split 80 = .ok (.getfield 10, 3) := by decide +kernel
theorem dX7_split_83 : decode cX7_split 83 = .ok (.getfield 116, 3) := by decide +kernel
theorem dX7_split_86 : decode cX7_split 86 = .ok (.iload_n 1, 1) := by decide +kernel
theorem dX7_split_87 : decode cX7_split 87 = .ok (.iaload, 1) := by decide +kernel
theorem dX7_split_88 : decode cX7_split 88 = .ok (.iload_n 2, 1) := by decide +kernel
theorem dX7_split_89 : decode cX7_split 89 = .ok (.isub, 1) := by decide +kernel
theorem dX7_split_90 : decode cX7_split 90 = .ok (.invokevirtual 99, 3) := by decide +kernel
theorem dX7_split_93 : decode cX7_split 93 = .ok (.aload_n 0, 1) := by decide +kernel
theorem dX7_split_94 : decode cX7_split 94 = .ok (.getfield 10, 3) := by decide +kernel
theorem dX7_split_97 : decode cX7_split 97 = .ok (.getfield 116, 3) := by decide +kernel
theorem dX7_split_100 : decode cX7_split 100 = .ok (.iload_n 1, 1) := by decide +kernel
theorem dX7_split_101 : decode cX7_split 101 = .ok (.iload_n 2, 1) := by decide +kernel
theorem dX7_split_102 : decode cX7_split 102 = .ok (.iastore, 1) := by decide +kernel
theorem dX7_split_103 : decode cX7_split 103 = .ok (.iconst 1, 1) := by decide +kernel
theorem dX7_split_104 : decode cX7_split 104 = .ok (.ireturn, 1) := by decide +kernel
theorem dX7_merge_0 : decode cX7_merge 0 = .ok (.iload_n 1, 1) := by decide +kernel
theorem dX7_merge_1 : decode cX7_merge 1 = .ok (.invokestatic 90, 3) := by decide +kernel
theorem dX7_merge_4 : decode cX7_merge 4 = .ok (.ifCond .ne 5, 3) := by decide +kernel
theorem dX7_merge_7 : decode cX7_merge 7 = .ok (.iconst (-1), 1) := by decide +kernel
theorem dX7_merge_8 : decode cX7_merge 8 = .ok (.ireturn, 1) := by decide +kernel
theorem dX7_merge_9 : decode cX7_merge 9 = .ok (.aload_n 0, 1) := by decide +kernel
theorem dX7_merge_10 : decode cX7_merge 10 = .ok (.getfield 25, 3) := by decide +kernel
theorem dX7_merge_13 : decode cX7_merge 13 = .ok (.aload_n 0, 1) := by decide +kernel
theorem dX7_merge_14 : decode cX7_merge 14 = .ok (.getfield 10, 3) := by decide +kernel
theorem dX7_merge_17 : decode cX7_merge 17 = .ok (.invokevirtual 77, 3) := by decide +kernel
theorem dX7_merge_20 : decode cX7_merge 20 = .ok (.aload_n 0, 1) := by decide +kernel
theorem dX7_merge_21 : decode cX7_merge 21 = .ok (.getfield 25, 3) := by decide +kernel
theorem dX7_merge_24 : decode cX7_merge 24 = .ok (.iload_n 1, 1) := by decide +kernel
theorem dX7_merge_25 : decode cX7_merge 25 = .ok (.invokevirtual 136, 3) := by decide +kernel
theorem dX7_merge_28 : decode cX7_merge 28 = .ok (.aload_n 0, 1) := by decide +kernel
theorem dX7_merge_29 : decode cX7_merge 29 = .ok (.getfield 10, 3) := by decide +kernel
theorem dX7_merge_32 : decode cX7_merge 32 = .ok (.getfield 83, 3) := by decide +kernel
theorem dX7_merge_35 : decode cX7_merge 35 = .ok (.aload_n 0, 1) := by decide +kernel
theorem dX7_merge_36 : decode cX7_merge 36 = .ok (.getfield 25, 3) := by decide +kernel
theorem dX7_merge_39 : decode cX7_merge 39 = .ok (.getfield 83, 3) := by decide +kernel
theorem dX7_merge_42 : decode cX7_merge 42 = .ok (.isub, 1) := by decide +kernel
theorem dX7_merge_43 : decode cX7_merge 43 = .ok (.istore_n 2, 1) := by decide +kernel
theorem dX7_merge_44 : decode cX7_merge 44 = .ok (.iload_n 2, 1) := by decide +kernel
theorem dX7_merge_45 : decode cX7_merge 45 = .ok (.ifCond .ne 5, 3) := by decide +kernel
theorem dX7_merge_48 : decode cX7_merge 48 = .ok (.iconst (-1), 1) := by decide +kernel
theorem dX7_merge_49 : decode cX7_merge 49 = .ok (.ireturn, 1) := by decide +kernel
theorem dX7_merge_50 : decode cX7_merge 50 = .ok (.aload_n 0, 1) := by decide +kernel
theorem dX7_merge_51 : decode cX7_merge 51 = .ok (.getfield 34, 3) := by decide +kernel
theorem dX7_merge_54 : decode cX7_merge 54 = .ok (.aload_n 0, 1) := by decide +kernel
theorem dX7_merge_55 : decode cX7_merge 55 = .ok (.getfield 10, 3) := by decide +kernel
theorem dX7_merge_58 : decode cX7_merge 58 = .ok (.invokevirtual 96, 3) := by decide +kernel
theorem dX7_merge_61 : decode cX7_merge 61 = .ok (.aload_n 0, 1) := by decide +kernel
theorem dX7_merge_62 : decode cX7_merge 62 = .ok (.getfield 10, 3) := by decide +kernel
theorem dX7_merge_65 : decode cX7_merge 65 = .ok (.aload_n 0, 1) := by decide +kernel
theorem dX7_merge_66 : decode cX7_merge 66 = .ok (.getfield 25, 3) := by decide +kernel
theorem dX7_merge_69 : decode cX7_merge 69 = .ok (.invokevirtual 77, 3) := by decide +kernel
theorem dX7_merge_72 : decode cX7_merge 72 = .ok (.iload_n 2, 1) := by decide +kernel
theorem dX7_merge_73 : decode cX7_merge 73 = .ok (.ireturn, 1) := by decide +kernel
theorem dX7_move_0 : decode cX7_move 0 = .ok (.aload_n 0, 1) := by decide +kernel
theorem dX7_move_1 : decode cX7_move 1 = .ok (.getfield 10, 3) := by decide +kernel
theorem dX7_move_4 : decode cX7_move 4 = .ok (.iload_n 1, 1) := by decide +kernel
theorem dX7_move_5 : decode cX7_move 5 = .ok (.invokevirtual 103, 3) := by decide +kernel
theorem dX7_move_8 : decode cX7_move 8 = .ok (.ifCond .eq 19, 3) := by decide +kernel
theorem dX7_move_11 : decode cX7_move 11 = .ok (.aload_n 0, 1) := by decide +kernel
theorem dX7_move_12 : decode cX7_move 12 = .ok (.getfield 10, 3) := by decide +kernel
theorem dX7_move_15 : decode cX7_move 15 = .ok (.iload_n 2, 1) := by decide +kernel
theorem dX7_move_16 : decode cX7_move 16 = .ok (.invokevirtual 103, 3) := by decide +kernel
theorem dX7_move_19 : decode cX7_move 19 = .ok (.ifCond .eq 8, 3) := by decide +kernel
theorem dX7_move_22 : decode cX7_move 22 = .ok (.iload_n 1, 1) := by decide +kernel
theorem dX7_move_23 : decode cX7_move 23 = .ok (.iload_n 2, 1) := by decide +kernel
theorem dX7_move_24 : decode cX7_move 24 = .ok (.if_icmp .ne 5, 3) := by decide +kernel
theorem dX7_move_27 : decode cX7_move 27 = .ok (.iconst 0, 1) := by decide +kernel
theorem dX7_move_28 : decode cX7_move 28 = .ok (.ireturn, 1) := by decide +kernel
theorem dX7_move_29 : decode cX7_move 29 = .ok (.aload_n 0, 1) := by decide +kernel
theorem dX7_move_30 : decode cX7_move 30 = .ok (.getfield 34, 3) := by decide +kernel
theorem dX7_move_33 : decode cX7_move 33 = .ok (.aload_n 0, 1) := by decide +kernel
theorem dX7_move_34 : decode cX7_move 34 = .ok (.getfield 10, 3) := by decide +kernel
theorem dX7_move_37 : decode cX7_move 37 = .ok (.invokevirtual 96, 3) := by decide +kernel
theorem dX7_move_40 : decode cX7_move 40 = .ok (.aload_n 0, 1) := by decide +kernel
theorem dX7_move_41 : decode cX7_move 41 = .ok (.getfield 10, 3) := by decide +kernel
theorem dX7_move_44 : decode cX7_move 44 = .ok (.getfield 133, 3) := by decide +kernel
theorem dX7_move_47 : decode cX7_move 47 = .ok (.iload_n 1, 1) := by decide +kernel
theorem dX7_move_48 : decode cX7_move 48 = .ok (.iaload, 1) := by decide +kernel
theorem dX7_move_49 : decode cX7_move 49 = .ok (.istore_n 3, 1) := by decide +kernel
theorem dX7_move_50 : decode cX7_move 50 = .ok (.aload_n 0, 1) := by decide +kernel
theorem dX7_move_51 : decode cX7_move 51 = .ok (.getfield 10, 3) := by decide +kernel
theorem dX7_move_54 : decode cX7_move 54 = .ok (.getfield 120, 3) := by decide +kernel
theorem dX7_move_57 : decode cX7_move 57 = .ok (.iload_n 1, 1) := by decide +kernel
theorem dX7_move_58 : decode cX7_move 58 = .ok (.iaload, 1) := by decide +kernel
theorem dX7_move_59 : decode cX7_move 59 = .ok (.istore 4, 2) := by decide +kernel
theorem dX7_move_61 : decode cX7_move 61 = .ok (.aload_n 0, 1) := by decide +kernel
theorem dX7_move_62 : decode cX7_move 62 = .ok (.getfield 10, 3) := by decide +kernel
theorem dX7_move_65 : decode cX7_move 65 = .ok (.getfield 116, 3) := by decide +kernel
theorem dX7_move_68 : decode cX7_move 68 = .ok (.iload_n 1, 1) := by decide +kernel
theorem dX7_move_69 : decode cX7_move 69 = .ok (.iaload, 1) := by decide +kernel
theorem dX7_move_70 : decode cX7_move 70 = .ok (.istore 5, 2) := by decide +kernel
theorem dX7_move_72 : decode cX7_move 72 = .ok (.aload_n 0, 1) := by decide +kernel
theorem dX7_move_73 : decode cX7_move 73 = .ok (.getfield 10, 3) := by decide +kernel
theorem dX7_move_76 : decode cX7_move 76 = .ok (.iload_n 1, 1) := by decide +kernel
theorem dX7_move_77 : decode cX7_move 77 = .ok (.invokevirtual 106, 3) := by decide +kernel
theorem dX7_move_80 : decode cX7_move 80 = .ok (.aload_n 0, 1) := by decide +kernel
theorem dX7_move_81 : decode cX7_move 81 = .ok (.getfield 10, 3) := by decide +kernel
theorem dX7_move_84 : decode cX7_move 84 = .ok (.iload_n 2, 1) := by decide +kernel
theorem dX7_move_85 : decode cX7_move 85 = .ok (.iload_n 3, 1) := by decide +kernel
theorem dX7_move_86 : decode cX7_move 86 = .ok (.iload 4, 2) := by decide +kernel
theorem dX7_move_88 : decode cX7_move 88 = .ok (.iload 5, 2) := by decide +kernel
theorem dX7_move_90 : decode cX7_move 90 = .ok (.invokevirtual 99, 3) := by decide +kernel
theorem dX7_move_93 : decode cX7_move 93 = .ok (.iconst 1, 1) := by decide +kernel
theorem dX7_move_94 : decode cX7_move 94 = .ok (.ireturn, 1) := by decide +kernel
theorem dX7_hold_0 : decode cX7_hold 0 = .ok (.iload_n 1, 1) := by decide +kernel
theorem dX7_hold_1 : decode cX7_hold 1 = .ok (.invokestatic 90, 3) := by decide +kernel
theorem dX7_hold_4 : decode cX7_hold 4 = .ok (.ifCond .eq 27, 3) := by decide +kernel
theorem dX7_hold_7 : decode cX7_hold 7 = .ok (.iload_n 2, 1) := by decide +kernel
theorem dX7_hold_8 : decode cX7_hold 8 = .ok (.ifCond .lt 23, 3) := by decide +kernel
theorem dX7_hold_11 : decode cX7_hold 11 = .ok (.iload_n 2, 1) := by decide +kernel
theorem dX7_hold_12 : decode cX7_hold 12 = .ok (.sipush 9999, 3) := by decide +kernel
theorem dX7_hold_15 : decode cX7_hold 15 = .ok (.if_icmp .gt 16, 3) := by decide +kernel
theorem dX7_hold_18 : decode cX7_hold 18 = .ok (.aload_n 0, 1) := by decide +kernel
theorem dX7_hold_19 : decode cX7_hold 19 = .ok (.getfield 10, 3) := by decide +kernel
theorem dX7_hold_22 : decode cX7_hold 22 = .ok (.getfield 139, 3) := by decide +kernel
theorem dX7_hold_25 : decode cX7_hold 25 = .ok (.iload_n 1, 1) := by decide +kernel
theorem dX7_hold_26 : decode cX7_hold 26 = .ok (.iaload, 1) := by decide +kernel
theorem dX7_hold_27 : decode cX7_hold 27 = .ok (.iload_n 2, 1) := by decide +kernel
theorem dX7_hold_28 : decode cX7_hold 28 = .ok (.if_icmp .ne 5, 3) := by decide +kernel
theorem dX7_hold_31 : decode cX7_hold 31 = .ok (.iconst (-1), 1) := by decide +kernel
theorem dX7_hold_32 : decode cX7_hold 32 = .ok (.ireturn, 1) := by decide +kernel
theorem dX7_hold_33 : decode cX7_hold 33 = .ok (.aload_n 0, 1) := by decide +kernel
theorem dX7_hold_34 : decode cX7_hold 34 = .ok (.getfield 10, 3) := by decide +kernel
theorem dX7_hold_37 : decode cX7_hold 37 = .ok (.getfield 139, 3) := by decide +kernel
theorem dX7_hold_40 : decode cX7_hold 40 = .ok (.iload_n 1, 1) := by decide +kernel
theorem dX7_hold_41 : decode cX7_hold 41 = .ok (.iaload, 1) := by decide +kernel
theorem dX7_hold_42 : decode cX7_hold 42 = .ok (.istore_n 3, 1) := by decide +kernel
theorem dX7_hold_43 : decode cX7_hold 43 = .ok (.aload_n 0, 1) := by decide +kernel
theorem dX7_hold_44 : decode cX7_hold 44 = .ok (.getfield 34, 3) := by decide +kernel
theorem dX7_hold_47 : decode cX7_hold 47 = .ok (.aload_n 0, 1) := by decide +kernel
theorem dX7_hold_48 : decode cX7_hold 48 = .ok (.getfield 10, 3) := by decide +kernel
theorem dX7_hold_51 : decode cX7_hold 51 = .ok (.invokevirtual 96, 3) := by decide +kernel
theorem dX7_hold_54 : decode cX7_hold 54 = .ok (.aload_n 0, 1) := by decide +kernel
theorem dX7_hold_55 : decode cX7_hold 55 = .ok (.getfield 10, 3) := by decide +kernel
theorem dX7_hold_58 : decode cX7_hold 58 = .ok (.getfield 139, 3) := by decide +kernel
theorem dX7_hold_61 : decode cX7_hold 61 = .ok (.iload_n 1, 1) := by decide +kernel
theorem dX7_hold_62 : decode cX7_hold 62 = .ok (.iload_n 2, 1) := by decide +kernel
theorem dX7_hold_63 : decode cX7_hold 63 = .ok (.iastore, 1) := by decide +kernel
theorem dX7_hold_64 : decode cX7_hold 64 = .ok (.iload_n 3, 1) := by decide +kernel
theorem dX7_hold_65 : decode cX7_hold 65 = .ok (.ireturn, 1) := by decide +kernel
theorem dX7_settle_0 : decode cX7_settle 0 = .ok (.aload_n 0, 1) := by decide +kernel
theorem dX7_settle_1 : decode cX7_settle 1 = .ok (.getfield 10, 3) := by decide +kernel
theorem dX7_settle_4 : decode cX7_settle 4 = .ok (.getfield 83, 3) := by decide +kernel
theorem dX7_settle_7 : decode cX7_settle 7 = .ok (.ifCond .ne 5, 3) := by decide +kernel
theorem dX7_settle_10 : decode cX7_settle 10 = .ok (.iconst (-1), 1) := by decide +kernel
theorem dX7_settle_11 : decode cX7_settle 11 = .ok (.ireturn, 1) := by decide +kernel
theorem dX7_settle_12 : decode cX7_settle 12 = .ok (.aload_n 0, 1) := by decide +kernel
theorem dX7_settle_13 : decode cX7_settle 13 = .ok (.getfield 34, 3) := by decide +kernel
theorem dX7_settle_16 : decode cX7_settle 16 = .ok (.aload_n 0, 1) := by decide +kernel
theorem dX7_settle_17 : decode cX7_settle 17 = .ok (.getfield 10, 3) := by decide +kernel
theorem dX7_settle_20 : decode cX7_settle 20 = .ok (.invokevirtual 96, 3) := by decide +kernel
theorem dX7_settle_23 : decode cX7_settle 23 = .ok (.aload_n 0, 1) := by decide +kernel
theorem dX7_settle_24 : decode cX7_settle 24 = .ok (.invokevirtual 142, 3) := by decide +kernel
theorem dX7_settle_27 : decode cX7_settle 27 = .ok (.astore_n 1, 1) := by decide +kernel
theorem dX7_settle_28 : decode cX7_settle 28 = .ok (.aload_n 1, 1) := by decide +kernel
theorem dX7_settle_29 : decode cX7_settle 29 = .ok (.invokevirtual 146, 3) := by decide +kernel
theorem dX7_settle_32 : decode cX7_settle 32 = .ok (.istore_n 2, 1) := by decide +kernel
theorem dX7_settle_33 : decode cX7_settle 33 = .ok (.aload_n 0, 1) := by decide +kernel
theorem dX7_settle_34 : decode cX7_settle 34 = .ok (.getfield 10, 3) := by decide +kernel
theorem dX7_settle_37 : decode cX7_settle 37 = .ok (.getfield 149, 3) := by decide +kernel
theorem dX7_settle_40 : decode cX7_settle 40 = .ok (.aload_n 1, 1) := by decide +kernel
theorem dX7_settle_41 : decode cX7_settle 41 = .ok (.getfield 153, 3) := by decide +kernel
theorem dX7_settle_44 : decode cX7_settle 44 = .ok (.aload_n 1, 1) := by decide +kernel
theorem dX7_settle_45 : decode cX7_settle 45 = .ok (.getfield 156, 3) := by decide +kernel
theorem dX7_settle_48 : decode cX7_settle 48 = .ok (.iload_n 2, 1) := by decide +kernel
theorem dX7_settle_49 : decode cX7_settle 49 = .ok (.aload_n 1, 1) := by decide +kernel
theorem dX7_settle_50 : decode cX7_settle 50 = .ok (.invokevirtual 159, 3) := by decide +kernel
theorem dX7_settle_53 : decode cX7_settle 53 = .ok (.invokevirtual 163, 3) := by decide +kernel
theorem dX7_settle_56 : decode cX7_settle 56 = .ok (.iconst 0, 1) := by decide +kernel
theorem dX7_settle_57 : decode cX7_settle 57 = .ok (.istore_n 3, 1) := by decide +kernel
theorem dX7_settle_58 : decode cX7_settle 58 = .ok (.iload_n 3, 1) := by decide +kernel
theorem dX7_settle_59 : decode cX7_settle 59 = .ok (.bipush 8, 2) := by decide +kernel
theorem dX7_settle_61 : decode cX7_settle 61 = .ok (.if_icmp .ge 39, 3) := by decide +kernel
theorem dX7_settle_64 : decode cX7_settle 64 = .ok (.aload_n 0, 1) := by decide +kernel
theorem dX7_settle_65 : decode cX7_settle 65 = .ok (.getfield 10, 3) := by decide +kernel
theorem dX7_settle_68 : decode cX7_settle 68 = .ok (.getfield 139, 3) := by decide +kernel
theorem dX7_settle_71 : decode cX7_settle 71 = .ok (.iload_n 3, 1) := by decide +kernel
theorem dX7_settle_72 : decode cX7_settle 72 = .ok (.sipush 9999, 3) := by decide +kernel
theorem dX7_settle_75 : decode cX7_settle 75 = .ok (.aload_n 0, 1) := by decide +kernel
theorem dX7_settle_76 : decode cX7_settle 76 = .ok (.getfield 10, 3) := by decide +kernel
theorem dX7_settle_79 : decode cX7_settle 79 = .ok (.getfield 139, 3) := by decide +kernel
theorem dX7_settle_82 : decode cX7_settle 82 = .ok (.iload_n 3, 1) := by decide +kernel
theorem dX7_settle_83 : decode cX7_settle 83 = .ok (.iaload, 1) := by decide +kernel
theorem dX7_settle_84 : decode cX7_settle 84 = .ok (.aload_n 1, 1) := by decide +kernel
theorem dX7_settle_85 : decode cX7_settle 85 = .ok (.iload_n 3, 1) := by decide +kernel
theorem dX7_settle_86 : decode cX7_settle 86 = .ok (.invokevirtual 169, 3) := by decide +kernel
theorem dX7_settle_89 : decode cX7_settle 89 = .ok (.iadd, 1) := by decide +kernel
theorem dX7_settle_90 : decode cX7_settle 90 = .ok (.invokestatic 173, 3) := by decide +kernel
theorem dX7_settle_93 : decode cX7_settle 93 = .ok (.iastore, 1) := by decide +kernel
theorem dX7_settle_94 : decode cX7_settle 94 = .ok (.iinc 3 1, 3) := by decide +kernel
theorem dX7_settle_97 : decode cX7_settle 97 = .ok (.goto (-39), 3) := by decide +kernel
theorem dX7_settle_100 : decode cX7_settle 100 = .ok (.aload_n 0, 1) := by decide +kernel
theorem dX7_settle_101 : decode cX7_settle 101 = .ok (.getfield 10, 3) := by decide +kernel
theorem dX7_settle_104 : decode cX7_settle 104 = .ok (.iconst 0, 1) := by decide +kernel
theorem dX7_settle_105 : decode cX7_settle 105 = .ok (.putfield 83, 3) := by decide +kernel
theorem dX7_settle_108 : decode cX7_settle 108 = .ok (.iload_n 2, 1) := by decide +kernel
theorem dX7_settle_109 : decode cX7_settle 109 = .ok (.ireturn, 1) := by decide +kernel
theorem dX7_undo_0 : decode cX7_undo 0 = .ok (.aload_n 0, 1) := by decide +kernel
theorem dX7_undo_1 : decode cX7_undo 1 = .ok (.getfield 34, 3) := by decide +kernel
theorem dX7_undo_4 : decode cX7_undo 4 = .ok (.getfield 178, 3) := by decide +kernel
theorem dX7_undo_7 : decode cX7_undo 7 = .ok (.ifCond .ne 5, 3) := by decide +kernel
theorem dX7_undo_10 : decode cX7_undo 10 = .ok (.iconst (-1), 1) := by decide +kernel
theorem dX7_undo_11 : decode cX7_undo 11 = .ok (.ireturn, 1) := by decide +kernel
theorem dX7_undo_12 : decode cX7_undo 12 = .ok (.aload_n 0, 1) := by decide +kernel
theorem dX7_undo_13 : decode cX7_undo 13 = .ok (.getfield 34, 3) := by decide +kernel
theorem dX7_undo_16 : decode cX7_undo 16 = .ok (.aload_n 0, 1) := by decide +kernel
theorem dX7_undo_17 : decode cX7_undo 17 = .ok (.getfield 10, 3) := by decide +kernel
theorem dX7_undo_20 : decode cX7_undo 20 = .ok (.invokevirtual 181, 3) := by decide +kernel
theorem dX7_undo_23 : decode cX7_undo 23 = .ok (.aload_n 0, 1) := by decide +kernel
theorem dX7_undo_24 : decode cX7_undo 24 = .ok (.getfield 34, 3) := by decide +kernel
theorem dX7_undo_27 : decode cX7_undo 27 = .ok (.getfield 178, 3) := by decide +kernel
theorem dX7_undo_30 : decode cX7_undo 30 = .ok (.ireturn, 1) := by decide +kernel
theorem dX7_asTerm_0 : decode cX7_asTerm 0 = .ok (.iload_n 1, 1) := by decide +kernel
theorem dX7_asTerm_1 : decode cX7_asTerm 1 = .ok (.ifCond .lt 9, 3) := by decide +kernel
theorem dX7_asTerm_4 : decode cX7_asTerm 4 = .ok (.iload_n 1, 1) := by decide +kernel
theorem dX7_asTerm_5 : decode cX7_asTerm 5 = .ok (.bipush 7, 2) := by decide +kernel
theorem dX7_asTerm_7 : decode cX7_asTerm 7 = .ok (.if_icmp .lt 7, 3) := by decide +kernel
theorem dX7_asTerm_10 : decode cX7_asTerm 10 = .ok (.iconst (-1), 1) := by decide +kernel
theorem dX7_asTerm_11 : decode cX7_asTerm 11 = .ok (.goto 12, 3) := by decide +kernel
theorem dX7_asTerm_14 : decode cX7_asTerm 14 = .ok (.aload_n 0, 1) := by decide +kernel
theorem dX7_asTerm_15 : decode cX7_asTerm 15 = .ok (.getfield 10, 3) := by decide +kernel
theorem dX7_asTerm_18 : decode cX7_asTerm 18 = .ok (.getfield 127, 3) := by decide +kernel
theorem dX7_asTerm_21 : decode cX7_asTerm 21 = .ok (.iload_n 1, 1) := by decide +kernel
theorem dX7_asTerm_22 : decode cX7_asTerm 22 = .ok (.iaload, 1) := by decide +kernel
theorem dX7_asTerm_23 : decode cX7_asTerm 23 = .ok (.ireturn, 1) := by decide +kernel
theorem dX7_of_0 : decode cX7_of 0 = .ok (.aload_n 0, 1) := by decide +kernel
theorem dX7_of_1 : decode cX7_of 1 = .ok (.getfield 10, 3) := by decide +kernel
theorem dX7_of_4 : decode cX7_of 4 = .ok (.iload_n 1, 1) := by decide +kernel
theorem dX7_of_5 : decode cX7_of 5 = .ok (.invokevirtual 103, 3) := by decide +kernel
theorem dX7_of_8 : decode cX7_of 8 = .ok (.ifCond .ne 5, 3) := by decide +kernel
theorem dX7_of_11 : decode cX7_of 11 = .ok (.iconst (-1), 1) := by decide +kernel
theorem dX7_of_12 : decode cX7_of 12 = .ok (.ireturn, 1) := by decide +kernel
theorem dX7_of_13 : decode cX7_of 13 = .ok (.aload_n 0, 1) := by decide +kernel
theorem dX7_of_14 : decode cX7_of 14 = .ok (.invokevirtual 142, 3) := by decide +kernel
theorem dX7_of_17 : decode cX7_of 17 = .ok (.astore_n 3, 1) := by decide +kernel
theorem dX7_of_18 : decode cX7_of 18 = .ok (.iload_n 2, 1) := by decide +kernel
theorem dX7_of_19 : decode cX7_of 19 = .ok (.tableswitch 106 0 5 #[37, 47, 75, 85, 92, 99], 37) := by decide +kernel
theorem dX7_of_56 : decode cX7_of 56 = .ok (.aload_n 0, 1) := by decide +kernel
theorem dX7_of_57 : decode cX7_of 57 = .ok (.getfield 10, 3) := by decide +kernel
theorem dX7_of_60 : decode cX7_of 60 = .ok (.getfield 133, 3) := by decide +kernel
theorem dX7_of_63 : decode cX7_of 63 = .ok (.iload_n 1, 1) := by decide +kernel
theorem dX7_of_64 : decode cX7_of 64 = .ok (.iaload, 1) := by decide +kernel
theorem dX7_of_65 : decode cX7_of 65 = .ok (.ireturn, 1) := by decide +kernel
theorem dX7_of_66 : decode cX7_of 66 = .ok (.aload_n 0, 1) := by decide +kernel
theorem dX7_of_67 : decode cX7_of 67 = .ok (.getfield 10, 3) := by decide +kernel
theorem dX7_of_70 : decode cX7_of 70 = .ok (.getfield 120, 3) := by decide +kernel
theorem dX7_of_73 : decode cX7_of 73 = .ok (.iload_n 1, 1) := by decide +kernel
theorem dX7_of_74 : decode cX7_of 74 = .ok (.iaload, 1) := by decide +kernel
theorem dX7_of_75 : decode cX7_of 75 = .ok (.iconst (-1), 1) := by decide +kernel
theorem dX7_of_76 : decode cX7_of 76 = .ok (.if_icmp .ne 8, 3) := by decide +kernel
theorem dX7_of_79 : decode cX7_of 79 = .ok (.bipush (-2), 2) := by decide +kernel
theorem dX7_of_81 : decode cX7_of 81 = .ok (.goto 12, 3) := by decide +kernel
theorem dX7_of_84 : decode cX7_of 84 = .ok (.aload_n 0, 1) := by decide +kernel
theorem dX7_of_85 : decode cX7_of 85 = .ok (.getfield 10, 3) := by decide +kernel
theorem dX7_of_88 : decode cX7_of 88 = .ok (.getfield 120, 3) := by decide +kernel
theorem dX7_of_91 : decode cX7_of 91 = .ok (.iload_n 1, 1) := by decide +kernel
theorem dX7_of_92 : decode cX7_of 92 = .ok (.iaload, 1) := by decide +kernel
theorem dX7_of_93 : decode cX7_of 93 = .ok (.ireturn, 1) := by decide +kernel
theorem dX7_of_94 : decode cX7_of 94 = .ok (.aload_n 0, 1) := by decide +kernel
theorem dX7_of_95 : decode cX7_of 95 = .ok (.getfield 10, 3) := by decide +kernel
theorem dX7_of_98 : decode cX7_of 98 = .ok (.getfield 116, 3) := by decide +kernel
theorem dX7_of_101 : decode cX7_of 101 = .ok (.iload_n 1, 1) := by decide +kernel
theorem dX7_of_102 : decode cX7_of 102 = .ok (.iaload, 1) := by decide +kernel
theorem dX7_of_103 : decode cX7_of 103 = .ok (.ireturn, 1) := by decide +kernel
theorem dX7_of_104 : decode cX7_of 104 = .ok (.aload_n 3, 1) := by decide +kernel
theorem dX7_of_105 : decode cX7_of 105 = .ok (.getfield 184, 3) := by decide +kernel
theorem dX7_of_108 : decode cX7_of 108 = .ok (.iload_n 1, 1) := by decide +kernel
theorem dX7_of_109 : decode cX7_of 109 = .ok (.iaload, 1) := by decide +kernel
theorem dX7_of_110 : decode cX7_of 110 = .ok (.ireturn, 1) := by decide +kernel
theorem dX7_of_111 : decode cX7_of 111 = .ok (.aload_n 3, 1) := by decide +kernel
theorem dX7_of_112 : decode cX7_of 112 = .ok (.getfield 187, 3) := by decide +kernel
theorem dX7_of_115 : decode cX7_of 115 = .ok (.iload_n 1, 1) := by decide +kernel
theorem dX7_of_116 : decode cX7_of 116 = .ok (.iaload, 1) := by decide +kernel
theorem dX7_of_117 : decode cX7_of 117 = .ok (.ireturn, 1) := by decide +kernel
theorem dX7_of_118 : decode cX7_of 118 = .ok (.aload_n 3, 1) := by decide +kernel
theorem dX7_of_119 : decode cX7_of 119 = .ok (.getfield 190, 3) := by decide +kernel
theorem dX7_of_122 : decode cX7_of 122 = .ok (.iload_n 1, 1) := by decide +kernel
theorem dX7_of_123 : decode cX7_of 123 = .ok (.iaload, 1) := by decide +kernel
theorem dX7_of_124 : decode cX7_of 124 = .ok (.ireturn, 1) := by decide +kernel
theorem dX7_of_125 : decode cX7_of 125 = .ok (.iconst (-1), 1) := by decide +kernel
theorem dX7_of_126 : decode cX7_of 126 = .ok (.ireturn, 1) := by decide +kernel
theorem dX7_pays_0 : decode cX7_pays 0 = .ok (.aload_n 0, 1) := by decide +kernel
theorem dX7_pays_1 : decode cX7_pays 1 = .ok (.getfield 10, 3) := by decide +kernel
theorem dX7_pays_4 : decode cX7_pays 4 = .ok (.iload_n 1, 1) := by decide +kernel
theorem dX7_pays_5 : decode cX7_pays 5 = .ok (.invokevirtual 103, 3) := by decide +kernel
theorem dX7_pays_8 : decode cX7_pays 8 = .ok (.ifCond .eq 14, 3) := by decide +kernel
theorem dX7_pays_11 : decode cX7_pays 11 = .ok (.aload_n 0, 1) := by decide +kernel
theorem dX7_pays_12 : decode cX7_pays 12 = .ok (.invokevirtual 142, 3) := by decide +kernel
theorem dX7_pays_15 : decode cX7_pays 15 = .ok (.iload_n 1, 1) := by decide +kernel
theorem dX7_pays_16 : decode cX7_pays 16 = .ok (.invokevirtual 193, 3) := by decide +kernel
theorem dX7_pays_19 : decode cX7_pays 19 = .ok (.goto 6, 3) := by decide +kernel
theorem dX7_pays_22 : decode cX7_pays 22 = .ok (.ldc2_w 197, 3) := by decide +kernel
theorem dX7_pays_25 : decode cX7_pays 25 = .ok (.lreturn, 1) := by decide +kernel
theorem dX7_house_0 : decode cX7_house 0 = .ok (.iload_n 1, 1) := by decide +kernel
theorem dX7_house_1 : decode cX7_house 1 = .ok (.invokestatic 90, 3) := by decide +kernel
theorem dX7_house_4 : decode cX7_house 4 = .ok (.ifCond .ne 5, 3) := by decide +kernel
theorem dX7_house_7 : decode cX7_house 7 = .ok (.iconst (-1), 1) := by decide +kernel
theorem dX7_house_8 : decode cX7_house 8 = .ok (.ireturn, 1) := by decide +kernel
theorem dX7_house_9 : decode cX7_house 9 = .ok (.aload_n 0, 1) := by decide +kernel
theorem dX7_house_10 : decode cX7_house 10 = .ok (.invokevirtual 142, 3) := by decide +kernel
theorem dX7_house_13 : decode cX7_house 13 = .ok (.astore_n 3, 1) := by decide +kernel
theorem dX7_house_14 : decode cX7_house 14 = .ok (.iload_n 2, 1) := by decide +kernel
theorem dX7_house_15 : decode cX7_house 15 = .ok (.tableswitch 106 0 6 #[41, 51, 66, 75, 81, 87, 97], 41) := by decide +kernel
theorem dX7_house_56 : decode cX7_house 56 = .ok (.aload_n 0, 1) := by decide +kernel
theorem dX7_house_57 : decode cX7_house 57 = .ok (.getfield 10, 3) := by decide +kernel
theorem dX7_house_60 : decode cX7_house 60 = .ok (.getfield 139, 3) := by decide +kernel
theorem dX7_house_63 : decode cX7_house 63 = .ok (.iload_n 1, 1) := by decide +kernel
theorem dX7_house_64 : decode cX7_house 64 = .ok (.iaload, 1) := by decide +kernel
theorem dX7_house_65 : decode cX7_house 65 = .ok (.ireturn, 1) := by decide +kernel
theorem dX7_house_66 : decode cX7_house 66 = .ok (.aload_n 3, 1) := by decide +kernel
theorem dX7_house_67 : decode cX7_house 67 = .ok (.getfield 199, 3) := by decide +kernel
theorem dX7_house_70 : decode cX7_house 70 = .ok (.aload_n 0, 1) := by decide +kernel
theorem dX7_house_71 : decode cX7_house 71 = .ok (.getfield 10, 3) := by decide +kernel
theorem dX7_house_74 : decode cX7_house 74 = .ok (.getfield 130, 3) := by decide +kernel
theorem dX7_house_77 : decode cX7_house 77 = .ok (.iload_n 1, 1) := by decide +kernel
theorem dX7_house_78 : decode cX7_house 78 = .ok (.iaload, 1) := by decide +kernel
theorem dX7_house_79 : decode cX7_house 79 = .ok (.iaload, 1) := by decide +kernel
theorem dX7_house_80 : decode cX7_house 80 = .ok (.ireturn, 1) := by decide +kernel
theorem dX7_house_81 : decode cX7_house 81 = .ok (.aload_n 0, 1) := by decide +kernel
theorem dX7_house_82 : decode cX7_house 82 = .ok (.getfield 10, 3) := by decide +kernel
theorem dX7_house_85 : decode cX7_house 85 = .ok (.iload_n 1, 1) := by decide +kernel
theorem dX7_house_86 : decode cX7_house 86 = .ok (.invokevirtual 202, 3) := by decide +kernel
theorem dX7_house_89 : decode cX7_house 89 = .ok (.ireturn, 1) := by decide +kernel
theorem dX7_house_90 : decode cX7_house 90 = .ok (.aload_n 3, 1) := by decide +kernel
theorem dX7_house_91 : decode cX7_house 91 = .ok (.iload_n 1, 1) := by decide +kernel
theorem dX7_house_92 : decode cX7_house 92 = .ok (.invokevirtual 205, 3) := by decide +kernel
theorem dX7_house_95 : decode cX7_house 95 = .ok (.ireturn, 1) := by decide +kernel
theorem dX7_house_96 : decode cX7_house 96 = .ok (.aload_n 3, 1) := by decide +kernel
theorem dX7_house_97 : decode cX7_house 97 = .ok (.iload_n 1, 1) := by decide +kernel
theorem dX7_house_98 : decode cX7_house 98 = .ok (.invokevirtual 169, 3) := by decide +kernel
theorem dX7_house_101 : decode cX7_house 101 = .ok (.ireturn, 1) := by decide +kernel
theorem dX7_house_102 : decode cX7_house 102 = .ok (.aload_n 0, 1) := by decide +kernel
theorem dX7_house_103 : decode cX7_house 103 = .ok (.getfield 10, 3) := by decide +kernel
theorem dX7_house_106 : decode cX7_house 106 = .ok (.getfield 130, 3) := by decide +kernel
theorem dX7_house_109 : decode cX7_house 109 = .ok (.iload_n 1, 1) := by decide +kernel
theorem dX7_house_110 : decode cX7_house 110 = .ok (.iaload, 1) := by decide +kernel
theorem dX7_house_111 : decode cX7_house 111 = .ok (.ireturn, 1) := by decide +kernel
theorem dX7_house_112 : decode cX7_house 112 = .ok (.aload_n 0, 1) := by decide +kernel
theorem dX7_house_113 : decode cX7_house 113 = .ok (.getfield 10, 3) := by decide +kernel
theorem dX7_house_116 : decode cX7_house 116 = .ok (.iload_n 1, 1) := by decide +kernel
theorem dX7_house_117 : decode cX7_house 117 = .ok (.invokevirtual 208, 3) := by decide +kernel
theorem dX7_house_120 : decode cX7_house 120 = .ok (.ireturn, 1) := by decide +kernel
theorem dX7_house_121 : decode cX7_house 121 = .ok (.iconst (-1), 1) := by decide +kernel
theorem dX7_house_122 : decode cX7_house 122 = .ok (.ireturn, 1) := by decide +kernel
theorem dX7_housePays_0 : decode cX7_housePays 0 = .ok (.iload_n 1, 1) := by decide +kernel
theorem dX7_housePays_1 : decode cX7_housePays 1 = .ok (.invokestatic 90, 3) := by decide +kernel
theorem dX7_housePays_4 : decode cX7_housePays 4 = .ok (.ifCond .eq 14, 3) := by decide +kernel
theorem dX7_housePays_7 : decode cX7_housePays 7 = .ok (.aload_n 0, 1) := by decide +kernel
theorem dX7_housePays_8 : decode cX7_housePays 8 = .ok (.invokevirtual 142, 3) := by decide +kernel
theorem dX7_housePays_11 : decode cX7_housePays 11 = .ok (.iload_n 1, 1) := by decide +kernel
theorem dX7_housePays_12 : decode cX7_housePays 12 = .ok (.invokevirtual 211, 3) := by decide +kernel
theorem dX7_housePays_15 : decode cX7_housePays 15 = .ok (.goto 6, 3) := by decide +kernel
theorem dX7_housePays_18 : decode cX7_housePays 18 = .ok (.ldc2_w 197, 3) := by decide +kernel
theorem dX7_housePays_21 : decode cX7_housePays 21 = .ok (.lreturn, 1) := by decide +kernel
theorem dX7_result_0 : decode cX7_result 0 = .ok (.aload_n 0, 1) := by decide +kernel
theorem dX7_result_1 : decode cX7_result 1 = .ok (.invokevirtual 142, 3) := by decide +kernel
theorem dX7_result_4 : decode cX7_result 4 = .ok (.iload_n 1, 1) := by decide +kernel
theorem dX7_result_5 : decode cX7_result 5 = .ok (.invokevirtual 214, 3) := by decide +kernel
theorem dX7_result_8 : decode cX7_result 8 = .ok (.ireturn, 1) := by decide +kernel
theorem dX7_paid_0 : decode cX7_paid 0 = .ok (.aload_n 0, 1) := by decide +kernel
theorem dX7_paid_1 : decode cX7_paid 1 = .ok (.invokevirtual 142, 3) := by decide +kernel
theorem dX7_paid_4 : decode cX7_paid 4 = .ok (.invokevirtual 159, 3) := by decide +kernel
theorem dX7_paid_7 : decode cX7_paid 7 = .ok (.lreturn, 1) := by decide +kernel
theorem dX7_mean_0 : decode cX7_mean 0 = .ok (.iload_n 1, 1) := by decide +kernel
theorem dX7_mean_1 : decode cX7_mean 1 = .ok (.invokestatic 90, 3) := by decide +kernel
theorem dX7_mean_4 : decode cX7_mean 4 = .ok (.ifCond .ne 7, 3) := by decide +kernel
theorem dX7_mean_7 : decode cX7_mean 7 = .ok (.ldc2_w 197, 3) := by decide +kernel
theorem dX7_mean_10 : decode cX7_mean 10 = .ok (.lreturn, 1) := by decide +kernel
theorem dX7_mean_11 : decode cX7_mean 11 = .ok (.aload_n 0, 1) := by decide +kernel
theorem dX7_mean_12 : decode cX7_mean 12 = .ok (.invokevirtual 142, 3) := by decide +kernel
theorem dX7_mean_15 : decode cX7_mean 15 = .ok (.astore_n 2, 1) := by decide +kernel
theorem dX7_mean_16 : decode cX7_mean 16 = .ok (.aload_n 2, 1) := by decide +kernel
theorem dX7_mean_17 : decode cX7_mean 17 = .ok (.iload_n 1, 1) := by decide +kernel
theorem dX7_mean_18 : decode cX7_mean 18 = .ok (.invokevirtual 169, 3) := by decide +kernel
theorem dX7_mean_21 : decode cX7_mean 21 = .ok (.istore_n 3, 1) := by decide +kernel
theorem dX7_mean_22 : decode cX7_mean 22 = .ok (.iload_n 3, 1) := by decide +kernel
theorem dX7_mean_23 : decode cX7_mean 23 = .ok (.ifCond .le 14, 3) := by decide +kernel
theorem dX7_mean_26 : decode cX7_mean 26 = .ok (.aload_n 2, 1) := by decide +kernel
theorem dX7_mean_27 : decode cX7_mean 27 = .ok (.iload_n 1, 1) := by decide +kernel
theorem dX7_mean_28 : decode cX7_mean 28 = .ok (.invokevirtual 211, 3) := by decide +kernel
theorem dX7_mean_31 : decode cX7_mean 31 = .ok (.iload_n 3, 1) := by decide +kernel
theorem dX7_mean_32 : decode cX7_mean 32 = .ok (.i2l, 1) := by decide +kernel
theorem dX7_mean_33 : decode cX7_mean 33 = .ok (.ldiv, 1) := by decide +kernel
theorem dX7_mean_34 : decode cX7_mean 34 = .ok (.goto 6, 3) := by decide +kernel
theorem dX7_mean_37 : decode cX7_mean 37 = .ok (.ldc2_w 217, 3) := by decide +kernel
theorem dX7_mean_40 : decode cX7_mean 40 = .ok (.lreturn, 1) := by decide +kernel
theorem dX7_filled_0 : decode cX7_filled 0 = .ok (.aload_n 0, 1) := by decide +kernel
theorem dX7_filled_1 : decode cX7_filled 1 = .ok (.getfield 10, 3) := by decide +kernel
theorem dX7_filled_4 : decode cX7_filled 4 = .ok (.iload_n 1, 1) := by decide +kernel
theorem dX7_filled_5 : decode cX7_filled 5 = .ok (.invokevirtual 103, 3) := by decide +kernel
theorem dX7_filled_8 : decode cX7_filled 8 = .ok (.ifCond .eq 16, 3) := by decide +kernel
theorem dX7_filled_11 : decode cX7_filled 11 = .ok (.aload_n 0, 1) := by decide +kernel
theorem dX7_filled_12 : decode cX7_filled 12 = .ok (.getfield 10, 3) := by decide +kernel
theorem dX7_filled_15 : decode cX7_filled 15 = .ok (.getfield 116, 3) := by decide +kernel
theorem dX7_filled_18 : decode cX7_filled 18 = .ok (.iload_n 1, 1) := by decide +kernel
theorem dX7_filled_19 : decode cX7_filled 19 = .ok (.iaload, 1) := by decide +kernel
theorem dX7_filled_20 : decode cX7_filled 20 = .ok (.iconst 1, 1) := by decide +kernel
theorem dX7_filled_21 : decode cX7_filled 21 = .ok (.if_icmp .ge 5, 3) := by decide +kernel
theorem dX7_filled_24 : decode cX7_filled 24 = .ok (.iconst (-1), 1) := by decide +kernel
theorem dX7_filled_25 : decode cX7_filled 25 = .ok (.ireturn, 1) := by decide +kernel
theorem dX7_filled_26 : decode cX7_filled 26 = .ok (.aload_n 0, 1) := by decide +kernel
theorem dX7_filled_27 : decode cX7_filled 27 = .ok (.invokevirtual 142, 3) := by decide +kernel
theorem dX7_filled_30 : decode cX7_filled 30 = .ok (.getfield 190, 3) := by decide +kernel
theorem dX7_filled_33 : decode cX7_filled 33 = .ok (.iload_n 1, 1) := by decide +kernel
theorem dX7_filled_34 : decode cX7_filled 34 = .ok (.iaload, 1) := by decide +kernel
theorem dX7_filled_35 : decode cX7_filled 35 = .ok (.bipush 100, 2) := by decide +kernel
theorem dX7_filled_37 : decode cX7_filled 37 = .ok (.imul, 1) := by decide +kernel
theorem dX7_filled_38 : decode cX7_filled 38 = .ok (.aload_n 0, 1) := by decide +kernel
theorem dX7_filled_39 : decode cX7_filled 39 = .ok (.getfield 10, 3) := by decide +kernel
theorem dX7_filled_42 : decode cX7_filled 42 = .ok (.getfield 116, 3) := by decide +kernel
theorem dX7_filled_45 : decode cX7_filled 45 = .ok (.iload_n 1, 1) := by decide +kernel
theorem dX7_filled_46 : decode cX7_filled 46 = .ok (.iaload, 1) := by decide +kernel
theorem dX7_filled_47 : decode cX7_filled 47 = .ok (.idiv, 1) := by decide +kernel
theorem dX7_filled_48 : decode cX7_filled 48 = .ok (.ireturn, 1) := by decide +kernel
theorem dX7_dearest_0 : decode cX7_dearest 0 = .ok (.aload_n 0, 1) := by decide +kernel
theorem dX7_dearest_1 : decode cX7_dearest 1 = .ok (.invokevirtual 142, 3) := by decide +kernel
theorem dX7_dearest_4 : decode cX7_dearest 4 = .ok (.astore_n 1, 1) := by decide +kernel
theorem dX7_dearest_5 : decode cX7_dearest 5 = .ok (.bipush (-2), 2) := by decide +kernel
theorem dX7_dearest_7 : decode cX7_dearest 7 = .ok (.istore_n 2, 1) := by decide +kernel
theorem dX7_dearest_8 : decode cX7_dearest 8 = .ok (.ldc2_w 197, 3) := by decide +kernel
theorem dX7_dearest_11 : decode cX7_dearest 11 = .ok (.lstore_n 3, 1) := by decide +kernel
theorem dX7_dearest_12 : decode cX7_dearest 12 = .ok (.iconst 0, 1) := by decide +kernel
theorem dX7_dearest_13 : decode cX7_dearest 13 = .ok (.istore 5, 2) := by decide +kernel
theorem dX7_dearest_15 : decode cX7_dearest 15 = .ok (.iload 5, 2) := by decide +kernel
theorem dX7_dearest_17 : decode cX7_dearest 17 = .ok (.aload_n 0, 1) := by decide +kernel
theorem dX7_dearest_18 : decode cX7_dearest 18 = .ok (.getfield 10, 3) := by decide +kernel
theorem dX7_dearest_21 : decode cX7_dearest 21 = .ok (.getfield 83, 3) := by decide +kernel
theorem dX7_dearest_24 : decode cX7_dearest 24 = .ok (.if_icmp .ge 30, 3) := by decide +kernel
theorem dX7_dearest_27 : decode cX7_dearest 27 = .ok (.aload_n 1, 1) := by decide +kernel
theorem dX7_dearest_28 : decode cX7_dearest 28 = .ok (.iload 5, 2) := by decide +kernel
theorem dX7_dearest_30 : decode cX7_dearest 30 = .ok (.invokevirtual 193, 3) := by decide +kernel
theorem dX7_dearest_33 : decode cX7_dearest 33 = .ok (.lstore 6, 2) := by decide +kernel
theorem dX7_dearest_35 : decode cX7_dearest 35 = .ok (.lload 6, 2) := by decide +kernel
theorem dX7_dearest_37 : decode cX7_dearest 37 = .ok (.lload_n 3, 1) := by decide +kernel
theorem dX7_dearest_38 : decode cX7_dearest 38 = .ok (.lcmp, 1) := by decide +kernel
theorem dX7_dearest_39 : decode cX7_dearest 39 = .ok (.ifCond .le 9, 3) := by decide +kernel
theorem dX7_dearest_42 : decode cX7_dearest 42 = .ok (.lload 6, 2) := by decide +kernel
theorem dX7_dearest_44 : decode cX7_dearest 44 = .ok (.lstore_n 3, 1) := by decide +kernel
theorem dX7_dearest_45 : decode cX7_dearest 45 = .ok (.iload 5, 2) := by decide +kernel
theorem dX7_dearest_47 : decode cX7_dearest 47 = .ok (.istore_n 2, 1) := by decide +kernel
theorem dX7_dearest_48 : decode cX7_dearest 48 = .ok (.iinc 5 1, 3) := by decide +kernel
theorem dX7_dearest_51 : decode cX7_dearest 51 = .ok (.goto (-36), 3) := by decide +kernel
theorem dX7_dearest_54 : decode cX7_dearest 54 = .ok (.iload_n 2, 1) := by decide +kernel
theorem dX7_dearest_55 : decode cX7_dearest 55 = .ok (.ireturn, 1) := by decide +kernel
theorem dX7_price_0 : decode cX7_price 0 = .ok (.iload_n 1, 1) := by decide +kernel
theorem dX7_price_1 : decode cX7_price 1 = .ok (.invokestatic 86, 3) := by decide +kernel
theorem dX7_price_4 : decode cX7_price 4 = .ok (.ifCond .eq 14, 3) := by decide +kernel
theorem dX7_price_7 : decode cX7_price 7 = .ok (.aload_n 0, 1) := by decide +kernel
theorem dX7_price_8 : decode cX7_price 8 = .ok (.getfield 10, 3) := by decide +kernel
theorem dX7_price_11 : decode cX7_price 11 = .ok (.iload_n 1, 1) := by decide +kernel
theorem dX7_price_12 : decode cX7_price 12 = .ok (.invokevirtual 219, 3) := by decide +kernel
theorem dX7_price_15 : decode cX7_price 15 = .ok (.goto 4, 3) := by decide +kernel
theorem dX7_price_18 : decode cX7_price 18 = .ok (.iconst (-1), 1) := by decide +kernel
theorem dX7_price_19 : decode cX7_price 19 = .ok (.ireturn, 1) := by decide +kernel
theorem dX7_upTo_0 : decode cX7_upTo 0 = .ok (.iload_n 1, 1) := by decide +kernel
theorem dX7_upTo_1 : decode cX7_upTo 1 = .ok (.invokestatic 86, 3) := by decide +kernel
theorem dX7_upTo_4 : decode cX7_upTo 4 = .ok (.ifCond .eq 14, 3) := by decide +kernel
theorem dX7_upTo_7 : decode cX7_upTo 7 = .ok (.aload_n 0, 1) := by decide +kernel
theorem dX7_upTo_8 : decode cX7_upTo 8 = .ok (.invokevirtual 142, 3) := by decide +kernel
theorem dX7_upTo_11 : decode cX7_upTo 11 = .ok (.iload_n 1, 1) := by decide +kernel
theorem dX7_upTo_12 : decode cX7_upTo 12 = .ok (.invokevirtual 222, 3) := by decide +kernel
theorem dX7_upTo_15 : decode cX7_upTo 15 = .ok (.goto 4, 3) := by decide +kernel
theorem dX7_upTo_18 : decode cX7_upTo 18 = .ok (.iconst (-1), 1) := by decide +kernel
theorem dX7_upTo_19 : decode cX7_upTo 19 = .ok (.ireturn, 1) := by decide +kernel
theorem dX7_ranked_0 : decode cX7_ranked 0 = .ok (.aload_n 0, 1) := by decide +kernel
theorem dX7_ranked_1 : decode cX7_ranked 1 = .ok (.getfield 10, 3) := by decide +kernel
theorem dX7_ranked_4 : decode cX7_ranked 4 = .ok (.iload_n 1, 1) := by decide +kernel
theorem dX7_ranked_5 : decode cX7_ranked 5 = .ok (.invokevirtual 103, 3) := by decide +kernel
theorem dX7_ranked_8 : decode cX7_ranked 8 = .ok (.ifCond .eq 15, 3) := by decide +kernel
theorem dX7_ranked_11 : decode cX7_ranked 11 = .ok (.aload_n 0, 1) := by decide +kernel
theorem dX7_ranked_12 : decode cX7_ranked 12 = .ok (.invokevirtual 142, 3) := by decide +kernel
theorem dX7_ranked_15 : decode cX7_ranked 15 = .ok (.getfield 225, 3) := by decide +kernel
theorem dX7_ranked_18 : decode cX7_ranked 18 = .ok (.iload_n 1, 1) := by decide +kernel
theorem dX7_ranked_19 : decode cX7_ranked 19 = .ok (.iaload, 1) := by decide +kernel
theorem dX7_ranked_20 : decode cX7_ranked 20 = .ok (.goto 4, 3) := by decide +kernel
theorem dX7_ranked_23 : decode cX7_ranked 23 = .ok (.iconst (-1), 1) := by decide +kernel
theorem dX7_ranked_24 : decode cX7_ranked 24 = .ok (.ireturn, 1) := by decide +kernel
theorem dX7_full_0 : decode cX7_full 0 = .ok (.aload_n 0, 1) := by decide +kernel
theorem dX7_full_1 : decode cX7_full 1 = .ok (.invokevirtual 142, 3) := by decide +kernel
theorem dX7_full_4 : decode cX7_full 4 = .ok (.astore_n 1, 1) := by decide +kernel
theorem dX7_full_5 : decode cX7_full 5 = .ok (.iconst 0, 1) := by decide +kernel
theorem dX7_full_6 : decode cX7_full 6 = .ok (.istore_n 2, 1) := by decide +kernel
theorem dX7_full_7 : decode cX7_full 7 = .ok (.iconst 0, 1) := by decide +kernel
theorem dX7_full_8 : decode cX7_full 8 = .ok (.istore_n 3, 1) := by decide +kernel
theorem dX7_full_9 : decode cX7_full 9 = .ok (.iload_n 3, 1) := by decide +kernel
theorem dX7_full_10 : decode cX7_full 10 = .ok (.bipush 8, 2) := by decide +kernel
theorem dX7_full_12 : decode cX7_full 12 = .ok (.if_icmp .ge 35, 3) := by decide +kernel
theorem dX7_full_15 : decode cX7_full 15 = .ok (.aload_n 1, 1) := by decide +kernel
theorem dX7_full_16 : decode cX7_full 16 = .ok (.iload_n 3, 1) := by decide +kernel
theorem dX7_full_17 : decode cX7_full 17 = .ok (.invokevirtual 228, 3) := by decide +kernel
theorem dX7_full_20 : decode cX7_full 20 = .ok (.istore 4, 2) := by decide +kernel
theorem dX7_full_22 : decode cX7_full 22 = .ok (.iload 4, 2) := by decide +kernel
theorem dX7_full_24 : decode cX7_full 24 = .ok (.ifCond .le 17, 3) := by decide +kernel
theorem dX7_full_27 : decode cX7_full 27 = .ok (.iload 4, 2) := by decide +kernel
theorem dX7_full_29 : decode cX7_full 29 = .ok (.aload_n 1, 1) := by decide +kernel
theorem dX7_full_30 : decode cX7_full 30 = .ok (.getfield 199, 3) := by decide +kernel
theorem dX7_full_33 : decode cX7_full 33 = .ok (.iload_n 3, 1) := by decide +kernel
theorem dX7_full_34 : decode cX7_full 34 = .ok (.iaload, 1) := by decide +kernel
theorem dX7_full_35 : decode cX7_full 35 = .ok (.if_icmp .lt 6, 3) := by decide +kernel
theorem dX7_full_38 : decode cX7_full 38 = .ok (.iinc 2 1, 3) := by decide +kernel
theorem dX7_full_41 : decode cX7_full 41 = .ok (.iinc 3 1, 3) := by decide +kernel
theorem dX7_full_44 : decode cX7_full 44 = .ok (.goto (-35), 3) := by decide +kernel
theorem dX7_full_47 : decode cX7_full 47 = .ok (.iload_n 2, 1) := by decide +kernel
theorem dX7_full_48 : decode cX7_full 48 = .ok (.ireturn, 1) := by decide +kernel
theorem dX7_crowded_0 : decode cX7_crowded 0 = .ok (.aload_n 0, 1) := by decide +kernel
theorem dX7_crowded_1 : decode cX7_crowded 1 = .ok (.invokevirtual 142, 3) := by decide +kernel
theorem dX7_crowded_4 : decode cX7_crowded 4 = .ok (.astore_n 1, 1) := by decide +kernel
theorem dX7_crowded_5 : decode cX7_crowded 5 = .ok (.aload_n 1, 1) := by decide +kernel
theorem dX7_crowded_6 : decode cX7_crowded 6 = .ok (.invokevirtual 146, 3) := by decide +kernel
theorem dX7_crowded_9 : decode cX7_crowded 9 = .ok (.istore_n 2, 1) := by decide +kernel
theorem dX7_crowded_10 : decode cX7_crowded 10 = .ok (.iload_n 2, 1) := by decide +kernel
theorem dX7_crowded_11 : decode cX7_crowded 11 = .ok (.iconst 1, 1) := by decide +kernel
theorem dX7_crowded_12 : decode cX7_crowded 12 = .ok (.if_icmp .ge 5, 3) := by decide +kernel
theorem dX7_crowded_15 : decode cX7_crowded 15 = .ok (.iconst 0, 1) := by decide +kernel
theorem dX7_crowded_16 : decode cX7_crowded 16 = .ok (.ireturn, 1) := by decide +kernel
theorem dX7_crowded_17 : decode cX7_crowded 17 = .ok (.iconst 0, 1) := by decide +kernel
theorem dX7_crowded_18 : decode cX7_crowded 18 = .ok (.istore_n 3, 1) := by decide +kernel
theorem dX7_crowded_19 : decode cX7_crowded 19 = .ok (.iconst 0, 1) := by decide +kernel
theorem dX7_crowded_20 : decode cX7_crowded 20 = .ok (.istore 4, 2) := by decide +kernel
theorem dX7_crowded_22 : decode cX7_crowded 22 = .ok (.iload 4, 2) := by decide +kernel
theorem dX7_crowded_24 : decode cX7_crowded 24 = .ok (.bipush 8, 2) := by decide +kernel
theorem dX7_crowded_26 : decode cX7_crowded 26 = .ok (.if_icmp .ge 30, 3) := by decide +kernel
theorem dX7_crowded_29 : decode cX7_crowded 29 = .ok (.aload_n 1, 1) := by decide +kernel
theorem dX7_crowded_30 : decode cX7_crowded 30 = .ok (.iload 4, 2) := by decide +kernel
theorem dX7_crowded_32 : decode cX7_crowded 32 = .ok (.invokevirtual 169, 3) := by decide +kernel
theorem dX7_crowded_35 : decode cX7_crowded 35 = .ok (.bipush 100, 2) := by decide +kernel
theorem dX7_crowded_37 : decode cX7_crowded 37 = .ok (.imul, 1) := by decide +kernel
theorem dX7_crowded_38 : decode cX7_crowded 38 = .ok (.iload_n 2, 1) := by decide +kernel
theorem dX7_crowded_39 : decode cX7_crowded 39 = .ok (.idiv, 1) := by decide +kernel
theorem dX7_crowded_40 : decode cX7_crowded 40 = .ok (.istore 5, 2) := by decide +kernel
theorem dX7_crowded_42 : decode cX7_crowded 42 = .ok (.iload_n 3, 1) := by decide +kernel
theorem dX7_crowded_43 : decode cX7_crowded 43 = .ok (.iload 5, 2) := by decide +kernel
theorem dX7_crowded_45 : decode cX7_crowded 45 = .ok (.iload 5, 2) := by decide +kernel
theorem dX7_crowded_47 : decode cX7_crowded 47 = .ok (.imul, 1) := by decide +kernel
theorem dX7_crowded_48 : decode cX7_crowded 48 = .ok (.iadd, 1) := by decide +kernel
theorem dX7_crowded_49 : decode cX7_crowded 49 = .ok (.istore_n 3, 1) := by decide +kernel
theorem dX7_crowded_50 : decode cX7_crowded 50 = .ok (.iinc 4 1, 3) := by decide +kernel
theorem dX7_crowded_53 : decode cX7_crowded 53 = .ok (.goto (-31), 3) := by decide +kernel
theorem dX7_crowded_56 : decode cX7_crowded 56 = .ok (.iload_n 3, 1) := by decide +kernel
theorem dX7_crowded_57 : decode cX7_crowded 57 = .ok (.ireturn, 1) := by decide +kernel
theorem dX7_step_0 : decode cX7_step 0 = .ok (.aload_n 0, 1) := by decide +kernel
theorem dX7_step_1 : decode cX7_step 1 = .ok (.invokevirtual 142, 3) := by decide +kernel
theorem dX7_step_4 : decode cX7_step 4 = .ok (.astore_n 3, 1) := by decide +kernel
theorem dX7_step_5 : decode cX7_step 5 = .ok (.aload_n 3, 1) := by decide +kernel
theorem dX7_step_6 : decode cX7_step 6 = .ok (.iload_n 1, 1) := by decide +kernel
theorem dX7_step_7 : decode cX7_step 7 = .ok (.invokevirtual 231, 3) := by decide +kernel
theorem dX7_step_10 : decode cX7_step 10 = .ok (.istore 4, 2) := by decide +kernel
theorem dX7_step_12 : decode cX7_step 12 = .ok (.iload 4, 2) := by decide +kernel
theorem dX7_step_14 : decode cX7_step 14 = .ok (.iconst (-1), 1) := by decide +kernel
theorem dX7_step_15 : decode cX7_step 15 = .ok (.if_icmp .ne 5, 3) := by decide +kernel
theorem dX7_step_18 : decode cX7_step 18 = .ok (.iconst (-1), 1) := by decide +kernel
theorem dX7_step_19 : decode cX7_step 19 = .ok (.ireturn, 1) := by decide +kernel
theorem dX7_step_20 : decode cX7_step 20 = .ok (.iload_n 2, 1) := by decide +kernel
theorem dX7_step_21 : decode cX7_step 21 = .ok (.tableswitch 66 0 4 #[35, 38, 45, 52, 59], 35) := by decide +kernel
theorem dX7_step_56 : decode cX7_step 56 = .ok (.iload 4, 2) := by decide +kernel
theorem dX7_step_58 : decode cX7_step 58 = .ok (.ireturn, 1) := by decide +kernel
theorem dX7_step_59 : decode cX7_step 59 = .ok (.aload_n 3, 1) := by decide +kernel
theorem dX7_step_60 : decode cX7_step 60 = .ok (.iload 4, 2) := by decide +kernel
theorem dX7_step_62 : decode cX7_step 62 = .ok (.invokevirtual 234, 3) := by decide +kernel
theorem dX7_step_65 : decode cX7_step 65 = .ok (.ireturn, 1) := by decide +kernel
theorem dX7_step_66 : decode cX7_step 66 = .ok (.aload_n 3, 1) := by decide +kernel
theorem dX7_step_67 : decode cX7_step 67 = .ok (.iload 4, 2) := by decide +kernel
theorem dX7_step_69 : decode cX7_step 69 = .ok (.invokevirtual 222, 3) := by decide +kernel
theorem dX7_step_72 : decode cX7_step 72 = .ok (.ireturn, 1) := by decide +kernel
theorem dX7_step_73 : decode cX7_step 73 = .ok (.aload_n 3, 1) := by decide +kernel
theorem dX7_step_74 : decode cX7_step 74 = .ok (.iload 4, 2) := by decide +kernel
theorem dX7_step_76 : decode cX7_step 76 = .ok (.invokevirtual 237, 3) := by decide +kernel
theorem dX7_step_79 : decode cX7_step 79 = .ok (.ireturn, 1) := by decide +kernel
theorem dX7_step_80 : decode cX7_step 80 = .ok (.aload_n 3, 1) := by decide +kernel
theorem dX7_step_81 : decode cX7_step 81 = .ok (.iload 4, 2) := by decide +kernel
theorem dX7_step_83 : decode cX7_step 83 = .ok (.invokevirtual 240, 3) := by decide +kernel
theorem dX7_step_86 : decode cX7_step 86 = .ok (.ireturn, 1) := by decide +kernel
theorem dX7_step_87 : decode cX7_step 87 = .ok (.iconst (-1), 1) := by decide +kernel
theorem dX7_step_88 : decode cX7_step 88 = .ok (.ireturn, 1) := by decide +kernel
theorem dX7_byOffer_0 : decode cX7_byOffer 0 = .ok (.aload_n 0, 1) := by decide +kernel
theorem dX7_byOffer_1 : decode cX7_byOffer 1 = .ok (.iconst 0, 1) := by decide +kernel
theorem dX7_byOffer_2 : decode cX7_byOffer 2 = .ok (.iload_n 1, 1) := by decide +kernel
theorem dX7_byOffer_3 : decode cX7_byOffer 3 = .ok (.iload_n 2, 1) := by decide +kernel
theorem dX7_byOffer_4 : decode cX7_byOffer 4 = .ok (.invokevirtual 243, 3) := by decide +kernel
theorem dX7_byOffer_7 : decode cX7_byOffer 7 = .ok (.ireturn, 1) := by decide +kernel
theorem dX7_offerFor_0 : decode cX7_offerFor 0 = .ok (.iload_n 1, 1) := by decide +kernel
theorem dX7_offerFor_1 : decode cX7_offerFor 1 = .ok (.invokestatic 86, 3) := by decide +kernel
theorem dX7_offerFor_4 : decode cX7_offerFor 4 = .ok (.ifCond .ne 5, 3) := by decide +kernel
theorem dX7_offerFor_7 : decode cX7_offerFor 7 = .ok (.iconst (-1), 1) := by decide +kernel
theorem dX7_offerFor_8 : decode cX7_offerFor 8 = .ok (.ireturn, 1) := by decide +kernel
theorem dX7_offerFor_9 : decode cX7_offerFor 9 = .ok (.aload_n 0, 1) := by decide +kernel
theorem dX7_offerFor_10 : decode cX7_offerFor 10 = .ok (.getfield 25, 3) := by decide +kernel
theorem dX7_offerFor_13 : decode cX7_offerFor 13 = .ok (.aload_n 0, 1) := by decide +kernel
theorem dX7_offerFor_14 : decode cX7_offerFor 14 = .ok (.getfield 10, 3) := by decide +kernel
theorem dX7_offerFor_17 : decode cX7_offerFor 17 = .ok (.invokevirtual 77, 3) := by decide +kernel
theorem dX7_offerFor_20 : decode cX7_offerFor 20 = .ok (.iconst 1, 1) := by decide +kernel
theorem dX7_offerFor_21 : decode cX7_offerFor 21 = .ok (.istore_n 2, 1) := by decide +kernel
theorem dX7_offerFor_22 : decode cX7_offerFor 22 = .ok (.iload_n 2, 1) := by decide +kernel
theorem dX7_offerFor_23 : decode cX7_offerFor 23 = .ok (.sipush 2000, 3) := by decide +kernel
theorem dX7_offerFor_26 : decode cX7_offerFor 26 = .ok (.if_icmp .gt 24, 3) := by decide +kernel
theorem dX7_offerFor_29 : decode cX7_offerFor 29 = .ok (.aload_n 0, 1) := by decide +kernel
theorem dX7_offerFor_30 : decode cX7_offerFor 30 = .ok (.iconst 0, 1) := by decide +kernel
theorem dX7_offerFor_31 : decode cX7_offerFor 31 = .ok (.iload_n 2, 1) := by decide +kernel
theorem dX7_offerFor_32 : decode cX7_offerFor 32 = .ok (.invokevirtual 247, 3) := by decide +kernel
theorem dX7_offerFor_35 : decode cX7_offerFor 35 = .ok (.getfield 153, 3) := by decide +kernel
theorem dX7_offerFor_38 : decode cX7_offerFor 38 = .ok (.iload_n 1, 1) := by decide +kernel
theorem dX7_offerFor_39 : decode cX7_offerFor 39 = .ok (.if_icmp .lt 5, 3) := by decide +kernel
theorem dX7_offerFor_42 : decode cX7_offerFor 42 = .ok (.iload_n 2, 1) := by decide +kernel
theorem dX7_offerFor_43 : decode cX7_offerFor 43 = .ok (.ireturn, 1) := by decide +kernel
theorem dX7_offerFor_44 : decode cX7_offerFor 44 = .ok (.iinc 2 1, 3) := by decide +kernel
theorem dX7_offerFor_47 : decode cX7_offerFor 47 = .ok (.goto (-25), 3) := by decide +kernel
theorem dX7_offerFor_50 : decode cX7_offerFor 50 = .ok (.bipush (-2), 2) := by decide +kernel
theorem dX7_offerFor_52 : decode cX7_offerFor 52 = .ok (.ireturn, 1) := by decide +kernel
theorem dX7_byTerm_0 : decode cX7_byTerm 0 = .ok (.aload_n 0, 1) := by decide +kernel
theorem dX7_byTerm_1 : decode cX7_byTerm 1 = .ok (.iload_n 1, 1) := by decide +kernel
theorem dX7_byTerm_2 : decode cX7_byTerm 2 = .ok (.iload_n 2, 1) := by decide +kernel
theorem dX7_byTerm_3 : decode cX7_byTerm 3 = .ok (.iload_n 3, 1) := by decide +kernel
theorem dX7_byTerm_4 : decode cX7_byTerm 4 = .ok (.invokevirtual 243, 3) := by decide +kernel
theorem dX7_byTerm_7 : decode cX7_byTerm 7 = .ok (.ireturn, 1) := by decide +kernel
theorem dX7_figureBy_0 : decode cX7_figureBy 0 = .ok (.aload_n 0, 1) := by decide +kernel
theorem dX7_figureBy_1 : decode cX7_figureBy 1 = .ok (.getfield 10, 3) := by decide +kernel
theorem dX7_figureBy_4 : decode cX7_figureBy 4 = .ok (.iload_n 1, 1) := by decide +kernel
theorem dX7_figureBy_5 : decode cX7_figureBy 5 = .ok (.iload_n 2, 1) := by decide +kernel
theorem dX7_figureBy_6 : decode cX7_figureBy 6 = .ok (.invokevirtual 123, 3) := by decide +kernel
theorem dX7_figureBy_9 : decode cX7_figureBy 9 = .ok (.ifCond .ne 5, 3) := by decide +kernel
theorem dX7_figureBy_12 : decode cX7_figureBy 12 = .ok (.iconst (-1), 1) := by decide +kernel
theorem dX7_figureBy_13 : decode cX7_figureBy 13 = .ok (.ireturn, 1) := by decide +kernel
theorem dX7_figureBy_14 : decode cX7_figureBy 14 = .ok (.aload_n 0, 1) := by decide +kernel
theorem dX7_figureBy_15 : decode cX7_figureBy 15 = .ok (.getfield 25, 3) := by decide +kernel
theorem dX7_figureBy_18 : decode cX7_figureBy 18 = .ok (.aload_n 0, 1) := by decide +kernel
theorem dX7_figureBy_19 : decode cX7_figureBy 19 = .ok (.getfield 10, 3) := by decide +kernel
theorem dX7_figureBy_22 : decode cX7_figureBy 22 = .ok (.invokevirtual 77, 3) := by decide +kernel
theorem dX7_figureBy_25 : decode cX7_figureBy 25 = .ok (.aload_n 0, 1) := by decide +kernel
theorem dX7_figureBy_26 : decode cX7_figureBy 26 = .ok (.getfield 25, 3) := by decide +kernel
theorem dX7_figureBy_29 : decode cX7_figureBy 29 = .ok (.getfield 127, 3) := by decide +kernel
theorem dX7_figureBy_32 : decode cX7_figureBy 32 = .ok (.iload_n 1, 1) := by decide +kernel
theorem dX7_figureBy_33 : decode cX7_figureBy 33 = .ok (.iload_n 2, 1) := by decide +kernel
theorem dX7_figureBy_34 : decode cX7_figureBy 34 = .ok (.iastore, 1) := by decide +kernel
theorem dX7_figureBy_35 : decode cX7_figureBy 35 = .ok (.aload_n 0, 1) := by decide +kernel
theorem dX7_figureBy_36 : decode cX7_figureBy 36 = .ok (.invokevirtual 251, 3) := by decide +kernel
theorem dX7_figureBy_39 : decode cX7_figureBy 39 = .ok (.iload_n 3, 1) := by decide +kernel
theorem dX7_figureBy_40 : decode cX7_figureBy 40 = .ok (.invokevirtual 214, 3) := by decide +kernel
theorem dX7_figureBy_43 : decode cX7_figureBy 43 = .ok (.ireturn, 1) := by decide +kernel
theorem dX7_limitFor_0 : decode cX7_limitFor 0 = .ok (.iload_n 1, 1) := by decide +kernel
theorem dX7_limitFor_1 : decode cX7_limitFor 1 = .ok (.invokestatic 90, 3) := by decide +kernel
theorem dX7_limitFor_4 : decode cX7_limitFor 4 = .ok (.ifCond .eq 8, 3) := by decide +kernel
theorem dX7_limitFor_7 : decode cX7_limitFor 7 = .ok (.iload_n 2, 1) := by decide +kernel
theorem dX7_limitFor_8 : decode cX7_limitFor 8 = .ok (.iconst 1, 1) := by decide +kernel
theorem dX7_limitFor_9 : decode cX7_limitFor 9 = .ok (.if_icmp .ge 5, 3) := by decide +kernel
theorem dX7_limitFor_12 : decode cX7_limitFor 12 = .ok (.iconst (-1), 1) := by decide +kernel
theorem dX7_limitFor_13 : decode cX7_limitFor 13 = .ok (.ireturn, 1) := by decide +kernel
theorem dX7_limitFor_14 : decode cX7_limitFor 14 = .ok (.aload_n 0, 1) := by decide +kernel
theorem dX7_limitFor_15 : decode cX7_limitFor 15 = .ok (.getfield 25, 3) := by decide +kernel
theorem dX7_limitFor_18 : decode cX7_limitFor 18 = .ok (.aload_n 0, 1) := by decide +kernel
theorem dX7_limitFor_19 : decode cX7_limitFor 19 = .ok (.getfield 10, 3) := by decide +kernel
theorem dX7_limitFor_22 : decode cX7_limitFor 22 = .ok (.invokevirtual 77, 3) := by decide +kernel
theorem dX7_limitFor_25 : decode cX7_limitFor 25 = .ok (.getstatic 254, 3) := by decide +kernel
theorem dX7_limitFor_28 : decode cX7_limitFor 28 = .ok (.iconst 1, 1) := by decide +kernel
theorem dX7_limitFor_29 : decode cX7_limitFor 29 = .ok (.iaload, 1) := by decide +kernel
theorem dX7_limitFor_30 : decode cX7_limitFor 30 = .ok (.istore_n 3, 1) := by decide +kernel
theorem dX7_limitFor_31 : decode cX7_limitFor 31 = .ok (.iload_n 3, 1) := by decide +kernel
theorem dX7_limitFor_32 : decode cX7_limitFor 32 = .ok (.getstatic 257, 3) := by decide +kernel
theorem dX7_limitFor_35 : decode cX7_limitFor 35 = .ok (.iconst 1, 1) := by decide +kernel
theorem dX7_limitFor_36 : decode cX7_limitFor 36 = .ok (.iaload, 1) := by decide +kernel
theorem dX7_limitFor_37 : decode cX7_limitFor 37 = .ok (.if_icmp .gt 25, 3) := by decide +kernel
theorem dX7_limitFor_40 : decode cX7_limitFor 40 = .ok (.aload_n 0, 1) := by decide +kernel
theorem dX7_limitFor_41 : decode cX7_limitFor 41 = .ok (.iconst 1, 1) := by decide +kernel
theorem dX7_limitFor_42 : decode cX7_limitFor 42 = .ok (.iload_n 3, 1) := by decide +kernel
theorem dX7_limitFor_43 : decode cX7_limitFor 43 = .ok (.invokevirtual 247, 3) := by decide +kernel
theorem dX7_limitFor_46 : decode cX7_limitFor 46 = .ok (.iload_n 1, 1) := by decide +kernel
theorem dX7_limitFor_47 : decode cX7_limitFor 47 = .ok (.invokevirtual 169, 3) := by decide +kernel
theorem dX7_limitFor_50 : decode cX7_limitFor 50 = .ok (.iload_n 2, 1) := by decide +kernel
theorem dX7_limitFor_51 : decode cX7_limitFor 51 = .ok (.if_icmp .lt 5, 3) := by decide +kernel
theorem dX7_limitFor_54 : decode cX7_limitFor 54 = .ok (.iload_n 3, 1) := by decide +kernel
theorem dX7_limitFor_55 : decode cX7_limitFor 55 = .ok (.ireturn, 1) := by decide +kernel
theorem dX7_limitFor_56 : decode cX7_limitFor 56 = .ok (.iinc 3 1, 3) := by decide +kernel
theorem dX7_limitFor_59 : decode cX7_limitFor 59 = .ok (.goto (-28), 3) := by decide +kernel
theorem dX7_limitFor_62 : decode cX7_limitFor 62 = .ok (.bipush (-2), 2) := by decide +kernel
theorem dX7_limitFor_64 : decode cX7_limitFor 64 = .ok (.ireturn, 1) := by decide +kernel
theorem dX7_shareFor_0 : decode cX7_shareFor 0 = .ok (.iload_n 1, 1) := by decide +kernel
theorem dX7_shareFor_1 : decode cX7_shareFor 1 = .ok (.iconst 1, 1) := by decide +kernel
theorem dX7_shareFor_2 : decode cX7_shareFor 2 = .ok (.if_icmp .ge 5, 3) := by decide +kernel
theorem dX7_shareFor_5 : decode cX7_shareFor 5 = .ok (.iconst (-1), 1) := by decide +kernel
theorem dX7_shareFor_6 : decode cX7_shareFor 6 = .ok (.ireturn, 1) := by decide +kernel
theorem dX7_shareFor_7 : decode cX7_shareFor 7 = .ok (.aload_n 0, 1) := by decide +kernel
theorem dX7_shareFor_8 : decode cX7_shareFor 8 = .ok (.getfield 25, 3) := by decide +kernel
theorem dX7_shareFor_11 : decode cX7_shareFor 11 = .ok (.aload_n 0, 1) := by decide +kernel
theorem dX7_shareFor_12 : decode cX7_shareFor 12 = .ok (.getfield 10, 3) := by decide +kernel
theorem dX7_shareFor_15 : decode cX7_shareFor 15 = .ok (.invokevirtual 77, 3) := by decide +kernel
theorem dX7_shareFor_18 : decode cX7_shareFor 18 = .ok (.getstatic 254, 3) := by decide +kernel
theorem dX7_shareFor_21 : decode cX7_shareFor 21 = .ok (.iconst 2, 1) := by decide +kernel
theorem dX7_shareFor_22 : decode cX7_shareFor 22 = .ok (.iaload, 1) := by decide +kernel
theorem dX7_shareFor_23 : decode cX7_shareFor 23 = .ok (.istore_n 2, 1) := by decide +kernel
theorem dX7_shareFor_24 : decode cX7_shareFor 24 = .ok (.iload_n 2, 1) := by decide +kernel
theorem dX7_shareFor_25 : decode cX7_shareFor 25 = .ok (.getstatic 257, 3) := by decide +kernel
theorem dX7_shareFor_28 : decode cX7_shareFor 28 = .ok (.iconst 2, 1) := by decide +kernel
theorem dX7_shareFor_29 : decode cX7_shareFor 29 = .ok (.iaload, 1) := by decide +kernel
theorem dX7_shareFor_30 : decode cX7_shareFor 30 = .ok (.if_icmp .gt 24, 3) := by decide +kernel
theorem dX7_shareFor_33 : decode cX7_shareFor 33 = .ok (.aload_n 0, 1) := by decide +kernel
theorem dX7_shareFor_34 : decode cX7_shareFor 34 = .ok (.iconst 2, 1) := by decide +kernel
theorem dX7_shareFor_35 : decode cX7_shareFor 35 = .ok (.iload_n 2, 1) := by decide +kernel
theorem dX7_shareFor_36 : decode cX7_shareFor 36 = .ok (.invokevirtual 247, 3) := by decide +kernel
theorem dX7_shareFor_39 : decode cX7_shareFor 39 = .ok (.getfield 260, 3) := by decide +kernel
theorem dX7_shareFor_42 : decode cX7_shareFor 42 = .ok (.iload_n 1, 1) := by decide +kernel
theorem dX7_shareFor_43 : decode cX7_shareFor 43 = .ok (.if_icmp .lt 5, 3) := by decide +kernel
theorem dX7_shareFor_46 : decode cX7_shareFor 46 = .ok (.iload_n 2, 1) := by decide +kernel
theorem dX7_shareFor_47 : decode cX7_shareFor 47 = .ok (.ireturn, 1) := by decide +kernel
theorem dX7_shareFor_48 : decode cX7_shareFor 48 = .ok (.iinc 2 1, 3) := by decide +kernel
theorem dX7_shareFor_51 : decode cX7_shareFor 51 = .ok (.goto (-27), 3) := by decide +kernel
theorem dX7_shareFor_54 : decode cX7_shareFor 54 = .ok (.bipush (-2), 2) := by decide +kernel
theorem dX7_shareFor_56 : decode cX7_shareFor 56 = .ok (.ireturn, 1) := by decide +kernel
theorem dX7_lotsFor_0 : decode cX7_lotsFor 0 = .ok (.aload_n 0, 1) := by decide +kernel
theorem dX7_lotsFor_1 : decode cX7_lotsFor 1 = .ok (.getfield 10, 3) := by decide +kernel
theorem dX7_lotsFor_4 : decode cX7_lotsFor 4 = .ok (.iload_n 1, 1) := by decide +kernel
theorem dX7_lotsFor_5 : decode cX7_lotsFor 5 = .ok (.invokevirtual 103, 3) := by decide +kernel
theorem dX7_lotsFor_8 : decode cX7_lotsFor 8 = .ok (.ifCond .eq 8, 3) := by decide +kernel
theorem dX7_lotsFor_11 : decode cX7_lotsFor 11 = .ok (.iload_n 2, 1) := by decide +kernel
theorem dX7_lotsFor_12 : decode cX7_lotsFor 12 = .ok (.iconst 1, 1) := by decide +kernel
theorem dX7_lotsFor_13 : decode cX7_lotsFor 13 = .ok (.if_icmp .ge 5, 3) := by decide +kernel
theorem dX7_lotsFor_16 : decode cX7_lotsFor 16 = .ok (.iconst (-1), 1) := by decide +kernel
theorem dX7_lotsFor_17 : decode cX7_lotsFor 17 = .ok (.ireturn, 1) := by decide +kernel
theorem dX7_lotsFor_18 : decode cX7_lotsFor 18 = .ok (.aload_n 0, 1) := by decide +kernel
theorem dX7_lotsFor_19 : decode cX7_lotsFor 19 = .ok (.getfield 25, 3) := by decide +kernel
theorem dX7_lotsFor_22 : decode cX7_lotsFor 22 = .ok (.aload_n 0, 1) := by decide +kernel
theorem dX7_lotsFor_23 : decode cX7_lotsFor 23 = .ok (.getfield 10, 3) := by decide +kernel
theorem dX7_lotsFor_26 : decode cX7_lotsFor 26 = .ok (.invokevirtual 77, 3) := by decide +kernel
theorem dX7_lotsFor_29 : decode cX7_lotsFor 29 = .ok (.iload_n 2, 1) := by decide +kernel
theorem dX7_lotsFor_30 : decode cX7_lotsFor 30 = .ok (.istore_n 3, 1) := by decide +kernel
theorem dX7_lotsFor_31 : decode cX7_lotsFor 31 = .ok (.iload_n 3, 1) := by decide +kernel
theorem dX7_lotsFor_32 : decode cX7_lotsFor 32 = .ok (.sipush 1000, 3) := by decide +kernel
theorem dX7_lotsFor_35 : decode cX7_lotsFor 35 = .ok (.if_icmp .gt 34, 3) := by decide +kernel
theorem dX7_lotsFor_38 : decode cX7_lotsFor 38 = .ok (.aload_n 0, 1) := by decide +kernel
theorem dX7_lotsFor_39 : decode cX7_lotsFor 39 = .ok (.getfield 25, 3) := by decide +kernel
theorem dX7_lotsFor_42 : decode cX7_lotsFor 42 = .ok (.getfield 116, 3) := by decide +kernel
theorem dX7_lotsFor_45 : decode cX7_lotsFor 45 = .ok (.iload_n 1, 1) := by decide +kernel
theorem dX7_lotsFor_46 : decode cX7_lotsFor 46 = .ok (.iload_n 3, 1) := by decide +kernel
theorem dX7_lotsFor_47 : decode cX7_lotsFor 47 = .ok (.iastore, 1) := by decide +kernel
theorem dX7_lotsFor_48 : decode cX7_lotsFor 48 = .ok (.aload_n 0, 1) := by decide +kernel
theorem dX7_lotsFor_49 : decode cX7_lotsFor 49 = .ok (.invokevirtual 251, 3) := by decide +kernel
theorem dX7_lotsFor_52 : decode cX7_lotsFor 52 = .ok (.getfield 190, 3) := by decide +kernel
theorem dX7_lotsFor_55 : decode cX7_lotsFor 55 = .ok (.iload_n 1, 1) := by decide +kernel
theorem dX7_lotsFor_56 : decode cX7_lotsFor 56 = .ok (.iaload, 1) := by decide +kernel
theorem dX7_lotsFor_57 : decode cX7_lotsFor 57 = .ok (.iload_n 2, 1) := by decide +kernel
theorem dX7_lotsFor_58 : decode cX7_lotsFor 58 = .ok (.if_icmp .lt 5, 3) := by decide +kernel
theorem dX7_lotsFor_61 : decode cX7_lotsFor 61 = .ok (.iload_n 3, 1) := by decide +kernel
theorem dX7_lotsFor_62 : decode cX7_lotsFor 62 = .ok (.ireturn, 1) := by decide +kernel
theorem dX7_lotsFor_63 : decode cX7_lotsFor 63 = .ok (.iinc 3 1, 3) := by decide +kernel
theorem dX7_lotsFor_66 : decode cX7_lotsFor 66 = .ok (.goto (-35), 3) := by decide +kernel
theorem dX7_lotsFor_69 : decode cX7_lotsFor 69 = .ok (.bipush (-2), 2) := by decide +kernel
theorem dX7_lotsFor_71 : decode cX7_lotsFor 71 = .ok (.ireturn, 1) := by decide +kernel
theorem dX7_bestOffer_0 : decode cX7_bestOffer 0 = .ok (.aload_n 0, 1) := by decide +kernel
theorem dX7_bestOffer_1 : decode cX7_bestOffer 1 = .ok (.getfield 10, 3) := by decide +kernel
theorem dX7_bestOffer_4 : decode cX7_bestOffer 4 = .ok (.getfield 83, 3) := by decide +kernel
theorem dX7_bestOffer_7 : decode cX7_bestOffer 7 = .ok (.ifCond .ne 6, 3) := by decide +kernel
theorem dX7_bestOffer_10 : decode cX7_bestOffer 10 = .ok (.bipush (-2), 2) := by decide +kernel
theorem dX7_bestOffer_12 : decode cX7_bestOffer 12 = .ok (.ireturn, 1) := by decide +kernel
theorem dX7_bestOffer_13 : decode cX7_bestOffer 13 = .ok (.aload_n 0, 1) := by decide +kernel
theorem dX7_bestOffer_14 : decode cX7_bestOffer 14 = .ok (.getfield 25, 3) := by decide +kernel
theorem dX7_bestOffer_17 : decode cX7_bestOffer 17 = .ok (.aload_n 0, 1) := by decide +kernel
theorem dX7_bestOffer_18 : decode cX7_bestOffer 18 = .ok (.getfield 10, 3) := by decide +kernel
theorem dX7_bestOffer_21 : decode cX7_bestOffer 21 = .ok (.invokevirtual 77, 3) := by decide +kernel
theorem dX7_bestOffer_24 : decode cX7_bestOffer 24 = .ok (.bipush (-2), 2) := by decide +kernel
theorem dX7_bestOffer_26 : decode cX7_bestOffer 26 = .ok (.istore_n 1, 1) := by decide +kernel
theorem dX7_bestOffer_27 : decode cX7_bestOffer 27 = .ok (.ldc2_w 197, 3) := by decide +kernel
theorem dX7_bestOffer_30 : decode cX7_bestOffer 30 = .ok (.lstore_n 2, 1) := by decide +kernel
theorem dX7_bestOffer_31 : decode cX7_bestOffer 31 = .ok (.iconst 1, 1) := by decide +kernel
theorem dX7_bestOffer_32 : decode cX7_bestOffer 32 = .ok (.istore 4, 2) := by decide +kernel
theorem dX7_bestOffer_34 : decode cX7_bestOffer 34 = .ok (.iload 4, 2) := by decide +kernel
theorem dX7_bestOffer_36 : decode cX7_bestOffer 36 = .ok (.sipush 2000, 3) := by decide +kernel
theorem dX7_bestOffer_39 : decode cX7_bestOffer 39 = .ok (.if_icmp .gt 34, 3) := by decide +kernel
theorem dX7_bestOffer_42 : decode cX7_bestOffer 42 = .ok (.aload_n 0, 1) := by decide +kernel
theorem dX7_bestOffer_43 : decode cX7_bestOffer 43 = .ok (.iconst 0, 1) := by decide +kernel
theorem dX7_bestOffer_44 : decode cX7_bestOffer 44 = .ok (.iload 4, 2) := by decide +kernel
theorem dX7_bestOffer_46 : decode cX7_bestOffer 46 = .ok (.invokevirtual 247, 3) := by decide +kernel
theorem dX7_bestOffer_49 : decode cX7_bestOffer 49 = .ok (.invokevirtual 159, 3) := by decide +kernel
theorem dX7_bestOffer_52 : decode cX7_bestOffer 52 = .ok (.lstore 5, 2) := by decide +kernel
theorem dX7_bestOffer_54 : decode cX7_bestOffer 54 = .ok (.lload 5, 2) := by decide +kernel
theorem dX7_bestOffer_56 : decode cX7_bestOffer 56 = .ok (.lload_n 2, 1) := by decide +kernel
theorem dX7_bestOffer_57 : decode cX7_bestOffer 57 = .ok (.lcmp, 1) := by decide +kernel
theorem dX7_bestOffer_58 : decode cX7_bestOffer 58 = .ok (.ifCond .le 9, 3) := by decide +kernel
theorem dX7_bestOffer_61 : decode cX7_bestOffer 61 = .ok (.lload 5, 2) := by decide +kernel
theorem dX7_bestOffer_63 : decode cX7_bestOffer 63 = .ok (.lstore_n 2, 1) := by decide +kernel
theorem dX7_bestOffer_64 : decode cX7_bestOffer 64 = .ok (.iload 4, 2) := by decide +kernel
theorem dX7_bestOffer_66 : decode cX7_bestOffer 66 = .ok (.istore_n 1, 1) := by decide +kernel
theorem dX7_bestOffer_67 : decode cX7_bestOffer 67 = .ok (.iinc 4 1, 3) := by decide +kernel
theorem dX7_bestOffer_70 : decode cX7_bestOffer 70 = .ok (.goto (-36), 3) := by decide +kernel
theorem dX7_bestOffer_73 : decode cX7_bestOffer 73 = .ok (.iload_n 1, 1) := by decide +kernel
theorem dX7_bestOffer_74 : decode cX7_bestOffer 74 = .ok (.ireturn, 1) := by decide +kernel
theorem dX7_paidBy_0 : decode cX7_paidBy 0 = .ok (.aload_n 0, 1) := by decide +kernel
theorem dX7_paidBy_1 : decode cX7_paidBy 1 = .ok (.getfield 10, 3) := by decide +kernel
theorem dX7_paidBy_4 : decode cX7_paidBy 4 = .ok (.bipush 6, 2) := by decide +kernel
theorem dX7_paidBy_6 : decode cX7_paidBy 6 = .ok (.iload_n 1, 1) := by decide +kernel
theorem dX7_paidBy_7 : decode cX7_paidBy 7 = .ok (.invokevirtual 123, 3) := by decide +kernel
theorem dX7_paidBy_10 : decode cX7_paidBy 10 = .ok (.ifCond .ne 7, 3) := by decide +kernel
theorem dX7_paidBy_13 : decode cX7_paidBy 13 = .ok (.ldc2_w 197, 3) := by decide +kernel
theorem dX7_paidBy_16 : decode cX7_paidBy 16 = .ok (.lreturn, 1) := by decide +kernel
theorem dX7_paidBy_17 : decode cX7_paidBy 17 = .ok (.aload_n 0, 1) := by decide +kernel
theorem dX7_paidBy_18 : decode cX7_paidBy 18 = .ok (.getfield 25, 3) := by decide +kernel
theorem dX7_paidBy_21 : decode cX7_paidBy 21 = .ok (.aload_n 0, 1) := by decide +kernel
theorem dX7_paidBy_22 : decode cX7_paidBy 22 = .ok (.getfield 10, 3) := by decide +kernel
theorem dX7_paidBy_25 : decode cX7_paidBy 25 = .ok (.invokevirtual 77, 3) := by decide +kernel
theorem dX7_paidBy_28 : decode cX7_paidBy 28 = .ok (.aload_n 0, 1) := by decide +kernel
theorem dX7_paidBy_29 : decode cX7_paidBy 29 = .ok (.bipush 6, 2) := by decide +kernel
theorem dX7_paidBy_31 : decode cX7_paidBy 31 = .ok (.iload_n 1, 1) := by decide +kernel
theorem dX7_paidBy_32 : decode cX7_paidBy 32 = .ok (.invokevirtual 247, 3) := by decide +kernel
theorem dX7_paidBy_35 : decode cX7_paidBy 35 = .ok (.invokevirtual 159, 3) := by decide +kernel
theorem dX7_paidBy_38 : decode cX7_paidBy 38 = .ok (.lreturn, 1) := by decide +kernel
theorem dX7_soldAt_0 : decode cX7_soldAt 0 = .ok (.aload_n 0, 1) := by decide +kernel
theorem dX7_soldAt_1 : decode cX7_soldAt 1 = .ok (.getfield 10, 3) := by decide +kernel
theorem dX7_soldAt_4 : decode cX7_soldAt 4 = .ok (.iload_n 1, 1) := by decide +kernel
theorem dX7_soldAt_5 : decode cX7_soldAt 5 = .ok (.invokevirtual 103, 3) := by decide +kernel
theorem dX7_soldAt_8 : decode cX7_soldAt 8 = .ok (.ifCond .eq 23, 3) := by decide +kernel
theorem dX7_soldAt_11 : decode cX7_soldAt 11 = .ok (.aload_n 0, 1) := by decide +kernel
theorem dX7_soldAt_12 : decode cX7_soldAt 12 = .ok (.getfield 10, 3) := by decide +kernel
theorem dX7_soldAt_15 : decode cX7_soldAt 15 = .ok (.getfield 120, 3) := by decide +kernel
theorem dX7_soldAt_18 : decode cX7_soldAt 18 = .ok (.iload_n 1, 1) := by decide +kernel
theorem dX7_soldAt_19 : decode cX7_soldAt 19 = .ok (.iaload, 1) := by decide +kernel
theorem dX7_soldAt_20 : decode cX7_soldAt 20 = .ok (.iconst (-1), 1) := by decide +kernel
theorem dX7_soldAt_21 : decode cX7_soldAt 21 = .ok (.if_icmp .eq 10, 3) := by decide +kernel
theorem dX7_soldAt_24 : decode cX7_soldAt 24 = .ok (.iload_n 2, 1) := by decide +kernel
theorem dX7_soldAt_25 : decode cX7_soldAt 25 = .ok (.invokestatic 86, 3) := by decide +kernel
theorem dX7_soldAt_28 : decode cX7_soldAt 28 = .ok (.ifCond .ne 5, 3) := by decide +kernel
theorem dX7_soldAt_31 : decode cX7_soldAt 31 = .ok (.iconst (-1), 1) := by decide +kernel
theorem dX7_soldAt_32 : decode cX7_soldAt 32 = .ok (.ireturn, 1) := by decide +kernel
theorem dX7_soldAt_33 : decode cX7_soldAt 33 = .ok (.aload_n 0, 1) := by decide +kernel
theorem dX7_soldAt_34 : decode cX7_soldAt 34 = .ok (.getfield 25, 3) := by decide +kernel
theorem dX7_soldAt_37 : decode cX7_soldAt 37 = .ok (.aload_n 0, 1) := by decide +kernel
theorem dX7_soldAt_38 : decode cX7_soldAt 38 = .ok (.getfield 10, 3) := by decide +kernel
theorem dX7_soldAt_41 : decode cX7_soldAt 41 = .ok (.invokevirtual 77, 3) := by decide +kernel
theorem dX7_soldAt_44 : decode cX7_soldAt 44 = .ok (.aload_n 0, 1) := by decide +kernel
theorem dX7_soldAt_45 : decode cX7_soldAt 45 = .ok (.iload_n 1, 1) := by decide +kernel
theorem dX7_soldAt_46 : decode cX7_soldAt 46 = .ok (.iload_n 2, 1) := by decide +kernel
theorem dX7_soldAt_47 : decode cX7_soldAt 47 = .ok (.invokevirtual 263, 3) := by decide +kernel
theorem dX7_soldAt_50 : decode cX7_soldAt 50 = .ok (.getfield 190, 3) := by decide +kernel
theorem dX7_soldAt_53 : decode cX7_soldAt 53 = .ok (.iload_n 1, 1) := by decide +kernel
theorem dX7_soldAt_54 : decode cX7_soldAt 54 = .ok (.iaload, 1) := by decide +kernel
theorem dX7_soldAt_55 : decode cX7_soldAt 55 = .ok (.ireturn, 1) := by decide +kernel
theorem dX7_yieldFor_0 : decode cX7_yieldFor 0 = .ok (.aload_n 0, 1) := by decide +kernel
theorem dX7_yieldFor_1 : decode cX7_yieldFor 1 = .ok (.getfield 10, 3) := by decide +kernel
theorem dX7_yieldFor_4 : decode cX7_yieldFor 4 = .ok (.iload_n 1, 1) := by decide +kernel
theorem dX7_yieldFor_5 : decode cX7_yieldFor 5 = .ok (.invokevirtual 103, 3) := by decide +kernel
theorem dX7_yieldFor_8 : decode cX7_yieldFor 8 = .ok (.ifCond .eq 21, 3) := by decide +kernel
theorem dX7_yieldFor_11 : decode cX7_yieldFor 11 = .ok (.aload_n 0, 1) := by decide +kernel
theorem dX7_yieldFor_12 : decode cX7_yieldFor 12 = .ok (.getfield 10, 3) := by decide +kernel
theorem dX7_yieldFor_15 : decode cX7_yieldFor 15 = .ok (.getfield 120, 3) := by decide +kernel
theorem dX7_yieldFor_18 : decode cX7_yieldFor 18 = .ok (.iload_n 1, 1) := by decide +kernel
theorem dX7_yieldFor_19 : decode cX7_yieldFor 19 = .ok (.iaload, 1) := by decide +kernel
theorem dX7_yieldFor_20 : decode cX7_yieldFor 20 = .ok (.iconst (-1), 1) := by decide +kernel
theorem dX7_yieldFor_21 : decode cX7_yieldFor 21 = .ok (.if_icmp .eq 8, 3) := by decide +kernel
theorem dX7_yieldFor_24 : decode cX7_yieldFor 24 = .ok (.iload_n 2, 1) := by decide +kernel
theorem dX7_yieldFor_25 : decode cX7_yieldFor 25 = .ok (.iconst 1, 1) := by decide +kernel
theorem dX7_yieldFor_26 : decode cX7_yieldFor 26 = .ok (.if_icmp .ge 5, 3) := by decide +kernel
theorem dX7_yieldFor_29 : decode cX7_yieldFor 29 = .ok (.iconst (-1), 1) := by decide +kernel
theorem dX7_yieldFor_30 : decode cX7_yieldFor 30 = .ok (.ireturn, 1) := by decide +kernel
theorem dX7_yieldFor_31 : decode cX7_yieldFor 31 = .ok (.aload_n 0, 1) := by decide +kernel
theorem dX7_yieldFor_32 : decode cX7_yieldFor 32 = .ok (.getfield 25, 3) := by decide +kernel
theorem dX7_yieldFor_35 : decode cX7_yieldFor 35 = .ok (.aload_n 0, 1) := by decide +kernel
theorem dX7_yieldFor_36 : decode cX7_yieldFor 36 = .ok (.getfield 10, 3) := by decide +kernel
theorem dX7_yieldFor_39 : decode cX7_yieldFor 39 = .ok (.invokevirtual 77, 3) := by decide +kernel
theorem dX7_yieldFor_42 : decode cX7_yieldFor 42 = .ok (.sipush 999, 3) := by decide +kernel
theorem dX7_yieldFor_45 : decode cX7_yieldFor 45 = .ok (.istore_n 3, 1) := by decide +kernel
theorem dX7_yieldFor_46 : decode cX7_yieldFor 46 = .ok (.iload_n 3, 1) := by decide +kernel
theorem dX7_yieldFor_47 : decode cX7_yieldFor 47 = .ok (.ifCond .lt 26, 3) := by decide +kernel
theorem dX7_yieldFor_50 : decode cX7_yieldFor 50 = .ok (.aload_n 0, 1) := by decide +kernel
theorem dX7_yieldFor_51 : decode cX7_yieldFor 51 = .ok (.iload_n 1, 1) := by decide +kernel
theorem dX7_yieldFor_52 : decode cX7_yieldFor 52 = .ok (.iload_n 3, 1) := by decide +kernel
theorem dX7_yieldFor_53 : decode cX7_yieldFor 53 = .ok (.invokevirtual 263, 3) := by decide +kernel
theorem dX7_yieldFor_56 : decode cX7_yieldFor 56 = .ok (.getfield 190, 3) := by decide +kernel
theorem dX7_yieldFor_59 : decode cX7_yieldFor 59 = .ok (.iload_n 1, 1) := by decide +kernel
theorem dX7_yieldFor_60 : decode cX7_yieldFor 60 = .ok (.iaload, 1) := by decide +kernel
theorem dX7_yieldFor_61 : decode cX7_yieldFor 61 = .ok (.iload_n 2, 1) := by decide +kernel
theorem dX7_yieldFor_62 : decode cX7_yieldFor 62 = .ok (.if_icmp .lt 5, 3) := by decide +kernel
theorem dX7_yieldFor_65 : decode cX7_yieldFor 65 = .ok (.iload_n 3, 1) := by decide +kernel
theorem dX7_yieldFor_66 : decode cX7_yieldFor 66 = .ok (.ireturn, 1) := by decide +kernel
theorem dX7_yieldFor_67 : decode cX7_yieldFor 67 = .ok (.iinc 3 (-1), 3) := by decide +kernel
theorem dX7_yieldFor_70 : decode cX7_yieldFor 70 = .ok (.goto (-24), 3) := by decide +kernel
theorem dX7_yieldFor_73 : decode cX7_yieldFor 73 = .ok (.bipush (-2), 2) := by decide +kernel
theorem dX7_yieldFor_75 : decode cX7_yieldFor 75 = .ok (.ireturn, 1) := by decide +kernel
theorem dX7_soldAllAt_0 : decode cX7_soldAllAt 0 = .ok (.iload_n 1, 1) := by decide +kernel
theorem dX7_soldAllAt_1 : decode cX7_soldAllAt 1 = .ok (.invokestatic 90, 3) := by decide +kernel
theorem dX7_soldAllAt_4 : decode cX7_soldAllAt 4 = .ok (.ifCond .eq 10, 3) := by decide +kernel
theorem dX7_soldAllAt_7 : decode cX7_soldAllAt 7 = .ok (.iload_n 2, 1) := by decide +kernel
theorem dX7_soldAllAt_8 : decode cX7_soldAllAt 8 = .ok (.invokestatic 86, 3) := by decide +kernel
theorem dX7_soldAllAt_11 : decode cX7_soldAllAt 11 = .ok (.ifCond .ne 5, 3) := by decide +kernel
theorem dX7_soldAllAt_14 : decode cX7_soldAllAt 14 = .ok (.iconst (-1), 1) := by decide +kernel
theorem dX7_soldAllAt_15 : decode cX7_soldAllAt 15 = .ok (.ireturn, 1) := by decide +kernel
theorem dX7_soldAllAt_16 : decode cX7_soldAllAt 16 = .ok (.aload_n 0, 1) := by decide +kernel
theorem dX7_soldAllAt_17 : decode cX7_soldAllAt 17 = .ok (.getfield 25, 3) := by decide +kernel
theorem dX7_soldAllAt_20 : decode cX7_soldAllAt 20 = .ok (.aload_n 0, 1) := by decide +kernel
theorem dX7_soldAllAt_21 : decode cX7_soldAllAt 21 = .ok (.getfield 10, 3) := by decide +kernel
theorem dX7_soldAllAt_24 : decode cX7_soldAllAt 24 = .ok (.invokevirtual 77, 3) := by decide +kernel
theorem dX7_soldAllAt_27 : decode cX7_soldAllAt 27 = .ok (.iconst 0, 1) := by decide +kernel
theorem dX7_soldAllAt_28 : decode cX7_soldAllAt 28 = .ok (.istore_n 3, 1) := by decide +kernel
theorem dX7_soldAllAt_29 : decode cX7_soldAllAt 29 = .ok (.iload_n 3, 1) := by decide +kernel
theorem dX7_soldAllAt_30 : decode cX7_soldAllAt 30 = .ok (.aload_n 0, 1) := by decide +kernel
theorem dX7_soldAllAt_31 : decode cX7_soldAllAt 31 = .ok (.getfield 25, 3) := by decide +kernel
theorem dX7_soldAllAt_34 : decode cX7_soldAllAt 34 = .ok (.getfield 83, 3) := by decide +kernel
theorem dX7_soldAllAt_37 : decode cX7_soldAllAt 37 = .ok (.if_icmp .ge 45, 3) := by decide +kernel
theorem dX7_soldAllAt_40 : decode cX7_soldAllAt 40 = .ok (.aload_n 0, 1) := by decide +kernel
theorem dX7_soldAllAt_41 : decode cX7_soldAllAt 41 = .ok (.getfield 25, 3) := by decide +kernel
theorem dX7_soldAllAt_44 : decode cX7_soldAllAt 44 = .ok (.getfield 133, 3) := by decide +kernel
theorem dX7_soldAllAt_47 : decode cX7_soldAllAt 47 = .ok (.iload_n 3, 1) := by decide +kernel
theorem dX7_soldAllAt_48 : decode cX7_soldAllAt 48 = .ok (.iaload, 1) := by decide +kernel
theorem dX7_soldAllAt_49 : decode cX7_soldAllAt 49 = .ok (.iload_n 1, 1) := by decide +kernel
theorem dX7_soldAllAt_50 : decode cX7_soldAllAt 50 = .ok (.if_icmp .ne 26, 3) := by decide +kernel
theorem dX7_soldAllAt_53 : decode cX7_soldAllAt 53 = .ok (.aload_n 0, 1) := by decide +kernel
theorem dX7_soldAllAt_54 : decode cX7_soldAllAt 54 = .ok (.getfield 25, 3) := by decide +kernel
theorem dX7_soldAllAt_57 : decode cX7_soldAllAt 57 = .ok (.getfield 120, 3) := by decide +kernel
theorem dX7_soldAllAt_60 : decode cX7_soldAllAt 60 = .ok (.iload_n 3, 1) := by decide +kernel
theorem dX7_soldAllAt_61 : decode cX7_soldAllAt 61 = .ok (.iaload, 1) := by decide +kernel
theorem dX7_soldAllAt_62 : decode cX7_soldAllAt 62 = .ok (.iconst (-1), 1) := by decide +kernel
theorem dX7_soldAllAt_63 : decode cX7_soldAllAt 63 = .ok (.if_icmp .eq 13, 3) := by decide +kernel
theorem dX7_soldAllAt_66 : decode cX7_soldAllAt 66 = .ok (.aload_n 0, 1) := by decide +kernel
theorem dX7_soldAllAt_67 : decode cX7_soldAllAt 67 = .ok (.getfield 25, 3) := by decide +kernel
theorem dX7_soldAllAt_70 : decode cX7_soldAllAt 70 = .ok (.getfield 120, 3) := by decide +kernel
theorem dX7_soldAllAt_73 : decode cX7_soldAllAt 73 = .ok (.iload_n 3, 1) := by decide +kernel
theorem dX7_soldAllAt_74 : decode cX7_soldAllAt 74 = .ok (.iload_n 2, 1) := by decide +kernel
theorem dX7_soldAllAt_75 : decode cX7_soldAllAt 75 = .ok (.iastore, 1) := by decide +kernel
theorem dX7_soldAllAt_76 : decode cX7_soldAllAt 76 = .ok (.iinc 3 1, 3) := by decide +kernel
theorem dX7_soldAllAt_79 : decode cX7_soldAllAt 79 = .ok (.goto (-50), 3) := by decide +kernel
theorem dX7_soldAllAt_82 : decode cX7_soldAllAt 82 = .ok (.aload_n 0, 1) := by decide +kernel
theorem dX7_soldAllAt_83 : decode cX7_soldAllAt 83 = .ok (.invokevirtual 251, 3) := by decide +kernel
theorem dX7_soldAllAt_86 : decode cX7_soldAllAt 86 = .ok (.iload_n 1, 1) := by decide +kernel
theorem dX7_soldAllAt_87 : decode cX7_soldAllAt 87 = .ok (.invokevirtual 169, 3) := by decide +kernel
theorem dX7_soldAllAt_90 : decode cX7_soldAllAt 90 = .ok (.ireturn, 1) := by decide +kernel
theorem dX7_stopWithout_0 : decode cX7_stopWithout 0 = .ok (.aload_n 0, 1) := by decide +kernel
theorem dX7_stopWithout_1 : decode cX7_stopWithout 1 = .ok (.getfield 10, 3) := by decide +kernel
theorem dX7_stopWithout_4 : decode cX7_stopWithout 4 = .ok (.iload_n 1, 1) := by decide +kernel
theorem dX7_stopWithout_5 : decode cX7_stopWithout 5 = .ok (.invokevirtual 103, 3) := by decide +kernel
theorem dX7_stopWithout_8 : decode cX7_stopWithout 8 = .ok (.ifCond .ne 5, 3) := by decide +kernel
theorem dX7_stopWithout_11 : decode cX7_stopWithout 11 = .ok (.iconst (-1), 1) := by decide +kernel
theorem dX7_stopWithout_12 : decode cX7_stopWithout 12 = .ok (.ireturn, 1) := by decide +kernel
theorem dX7_stopWithout_13 : decode cX7_stopWithout 13 = .ok (.aload_n 0, 1) := by decide +kernel
theorem dX7_stopWithout_14 : decode cX7_stopWithout 14 = .ok (.getfield 25, 3) := by decide +kernel
theorem dX7_stopWithout_17 : decode cX7_stopWithout 17 = .ok (.aload_n 0, 1) := by decide +kernel
theorem dX7_stopWithout_18 : decode cX7_stopWithout 18 = .ok (.getfield 10, 3) := by decide +kernel
theorem dX7_stopWithout_21 : decode cX7_stopWithout 21 = .ok (.invokevirtual 77, 3) := by decide +kernel
theorem dX7_stopWithout_24 : decode cX7_stopWithout 24 = .ok (.aload_n 0, 1) := by decide +kernel
theorem dX7_stopWithout_25 : decode cX7_stopWithout 25 = .ok (.getfield 25, 3) := by decide +kernel
theorem dX7_stopWithout_28 : decode cX7_stopWithout 28 = .ok (.iload_n 1, 1) := by decide +kernel
theorem dX7_stopWithout_29 : decode cX7_stopWithout 29 = .ok (.invokevirtual 106, 3) := by decide +kernel
theorem dX7_stopWithout_32 : decode cX7_stopWithout 32 = .ok (.aload_n 0, 1) := by decide +kernel
theorem dX7_stopWithout_33 : decode cX7_stopWithout 33 = .ok (.invokevirtual 251, 3) := by decide +kernel
theorem dX7_stopWithout_36 : decode cX7_stopWithout 36 = .ok (.getfield 153, 3) := by decide +kernel
theorem dX7_stopWithout_39 : decode cX7_stopWithout 39 = .ok (.ireturn, 1) := by decide +kernel
theorem dX7_pivot_0 : decode cX7_pivot 0 = .ok (.iconst 0, 1) := by decide +kernel
theorem dX7_pivot_1 : decode cX7_pivot 1 = .ok (.istore_n 1, 1) := by decide +kernel
theorem dX7_pivot_2 : decode cX7_pivot 2 = .ok (.bipush (-2), 2) := by decide +kernel
theorem dX7_pivot_4 : decode cX7_pivot 4 = .ok (.istore_n 2, 1) := by decide +kernel
theorem dX7_pivot_5 : decode cX7_pivot 5 = .ok (.iconst 0, 1) := by decide +kernel
theorem dX7_pivot_6 : decode cX7_pivot 6 = .ok (.istore_n 3, 1) := by decide +kernel
theorem dX7_pivot_7 : decode cX7_pivot 7 = .ok (.iload_n 3, 1) := by decide +kernel
theorem dX7_pivot_8 : decode cX7_pivot 8 = .ok (.bipush 8, 2) := by decide +kernel
theorem dX7_pivot_10 : decode cX7_pivot 10 = .ok (.if_icmp .ge 48, 3) := by decide +kernel
theorem dX7_pivot_13 : decode cX7_pivot 13 = .ok (.aload_n 0, 1) := by decide +kernel
theorem dX7_pivot_14 : decode cX7_pivot 14 = .ok (.getfield 25, 3) := by decide +kernel
theorem dX7_pivot_17 : decode cX7_pivot 17 = .ok (.aload_n 0, 1) := by decide +kernel
theorem dX7_pivot_18 : decode cX7_pivot 18 = .ok (.getfield 10, 3) := by decide +kernel
theorem dX7_pivot_21 : decode cX7_pivot 21 = .ok (.invokevirtual 77, 3) := by decide +kernel
theorem dX7_pivot_24 : decode cX7_pivot 24 = .ok (.aload_n 0, 1) := by decide +kernel
theorem dX7_pivot_25 : decode cX7_pivot 25 = .ok (.getfield 25, 3) := by decide +kernel
theorem dX7_pivot_28 : decode cX7_pivot 28 = .ok (.iload_n 3, 1) := by decide +kernel
theorem dX7_pivot_29 : decode cX7_pivot 29 = .ok (.invokevirtual 266, 3) := by decide +kernel
theorem dX7_pivot_32 : decode cX7_pivot 32 = .ok (.aload_n 0, 1) := by decide +kernel
theorem dX7_pivot_33 : decode cX7_pivot 33 = .ok (.invokevirtual 251, 3) := by decide +kernel
theorem dX7_pivot_36 : decode cX7_pivot 36 = .ok (.getfield 153, 3) := by decide +kernel
theorem dX7_pivot_39 : decode cX7_pivot 39 = .ok (.istore 4, 2) := by decide +kernel
theorem dX7_pivot_41 : decode cX7_pivot 41 = .ok (.iload 4, 2) := by decide +kernel
theorem dX7_pivot_43 : decode cX7_pivot 43 = .ok (.iload_n 2, 1) := by decide +kernel
theorem dX7_pivot_44 : decode cX7_pivot 44 = .ok (.if_icmp .le 8, 3) := by decide +kernel
theorem dX7_pivot_47 : decode cX7_pivot 47 = .ok (.iload 4, 2) := by decide +kernel
theorem dX7_pivot_49 : decode cX7_pivot 49 = .ok (.istore_n 2, 1) := by decide +kernel
theorem dX7_pivot_50 : decode cX7_pivot 50 = .ok (.iload_n 3, 1) := by decide +kernel
theorem dX7_pivot_51 : decode cX7_pivot 51 = .ok (.istore_n 1, 1) := by decide +kernel
theorem dX7_pivot_52 : decode cX7_pivot 52 = .ok (.iinc 3 1, 3) := by decide +kernel
theorem dX7_pivot_55 : decode cX7_pivot 55 = .ok (.goto (-48), 3) := by decide +kernel
theorem dX7_pivot_58 : decode cX7_pivot 58 = .ok (.iload_n 1, 1) := by decide +kernel
theorem dX7_pivot_59 : decode cX7_pivot 59 = .ok (.ireturn, 1) := by decide +kernel
theorem dX7_record_0 : decode cX7_record 0 = .ok (.aload_n 0, 1) := by decide +kernel
theorem dX7_record_1 : decode cX7_record 1 = .ok (.getfield 10, 3) := by decide +kernel
theorem dX7_record_4 : decode cX7_record 4 = .ok (.getfield 149, 3) := by decide +kernel
theorem dX7_record_7 : decode cX7_record 7 = .ok (.astore_n 3, 1) := by decide +kernel
theorem dX7_record_8 : decode cX7_record 8 = .ok (.aload_n 3, 1) := by decide +kernel
theorem dX7_record_9 : decode cX7_record 9 = .ok (.iload_n 1, 1) := by decide +kernel
theorem dX7_record_10 : decode cX7_record 10 = .ok (.invokevirtual 269, 3) := by decide +kernel
theorem dX7_record_13 : decode cX7_record 13 = .ok (.ifCond .ne 5, 3) := by decide +kernel
theorem dX7_record_16 : decode cX7_record 16 = .ok (.iconst (-1), 1) := by decide +kernel
theorem dX7_record_17 : decode cX7_record 17 = .ok (.ireturn, 1) := by decide +kernel
theorem dX7_record_18 : decode cX7_record 18 = .ok (.iload_n 2, 1) := by decide +kernel
theorem dX7_record_19 : decode cX7_record 19 = .ok (.tableswitch 46 0 2 #[25, 32, 39], 25) := by decide +kernel
theorem dX7_record_44 : decode cX7_record 44 = .ok (.aload_n 3, 1) := by decide +kernel
theorem dX7_record_45 : decode cX7_record 45 = .ok (.getfield 272, 3) := by decide +kernel
theorem dX7_record_48 : decode cX7_record 48 = .ok (.iload_n 1, 1) := by decide +kernel
theorem dX7_record_49 : decode cX7_record 49 = .ok (.iaload, 1) := by decide +kernel
theorem dX7_record_50 : decode cX7_record 50 = .ok (.ireturn, 1) := by decide +kernel
theorem dX7_record_51 : decode cX7_record 51 = .ok (.aload_n 3, 1) := by decide +kernel
theorem dX7_record_52 : decode cX7_record 52 = .ok (.getfield 275, 3) := by decide +kernel
theorem dX7_record_55 : decode cX7_record 55 = .ok (.iload_n 1, 1) := by decide +kernel
theorem dX7_record_56 : decode cX7_record 56 = .ok (.iaload, 1) := by decide +kernel
theorem dX7_record_57 : decode cX7_record 57 = .ok (.ireturn, 1) := by decide +kernel
theorem dX7_record_58 : decode cX7_record 58 = .ok (.aload_n 3, 1) := by decide +kernel
theorem dX7_record_59 : decode cX7_record 59 = .ok (.getfield 278, 3) := by decide +kernel
theorem dX7_record_62 : decode cX7_record 62 = .ok (.iload_n 1, 1) := by decide +kernel
theorem dX7_record_63 : decode cX7_record 63 = .ok (.iaload, 1) := by decide +kernel
theorem dX7_record_64 : decode cX7_record 64 = .ok (.ireturn, 1) := by decide +kernel
theorem dX7_record_65 : decode cX7_record 65 = .ok (.iconst (-1), 1) := by decide +kernel
theorem dX7_record_66 : decode cX7_record 66 = .ok (.ireturn, 1) := by decide +kernel
theorem dX7_records_0 : decode cX7_records 0 = .ok (.iload_n 1, 1) := by decide +kernel
theorem dX7_records_1 : decode cX7_records 1 = .ok (.tableswitch 75 0 3 #[31, 42, 53, 64], 31) := by decide +kernel
theorem dX7_records_32 : decode cX7_records 32 = .ok (.aload_n 0, 1) := by decide +kernel
theorem dX7_records_33 : decode cX7_records 33 = .ok (.getfield 10, 3) := by decide +kernel
theorem dX7_records_36 : decode cX7_records 36 = .ok (.getfield 149, 3) := by decide +kernel
theorem dX7_records_39 : decode cX7_records 39 = .ok (.invokevirtual 279, 3) := by decide +kernel
theorem dX7_records_42 : decode cX7_records 42 = .ok (.ireturn, 1) := by decide +kernel
theorem dX7_records_43 : decode cX7_records 43 = .ok (.aload_n 0, 1) := by decide +kernel
theorem dX7_records_44 : decode cX7_records 44 = .ok (.getfield 10, 3) := by decide +kernel
theorem dX7_records_47 : decode cX7_records 47 = .ok (.getfield 149, 3) := by decide +kernel
theorem dX7_records_50 : decode cX7_records 50 = .ok (.invokevirtual 280, 3) := by decide +kernel
theorem dX7_records_53 : decode cX7_records 53 = .ok (.ireturn, 1) := by decide +kernel
theorem dX7_records_54 : decode cX7_records 54 = .ok (.aload_n 0, 1) := by decide +kernel
theorem dX7_records_55 : decode cX7_records 55 = .ok (.getfield 10, 3) := by decide +kernel
theorem dX7_records_58 : decode cX7_records 58 = .ok (.getfield 149, 3) := by decide +kernel
theorem dX7_records_61 : decode cX7_records 61 = .ok (.invokevirtual 283, 3) := by decide +kernel
theorem dX7_records_64 : decode cX7_records 64 = .ok (.ireturn, 1) := by decide +kernel
theorem dX7_records_65 : decode cX7_records 65 = .ok (.aload_n 0, 1) := by decide +kernel
theorem dX7_records_66 : decode cX7_records 66 = .ok (.getfield 10, 3) := by decide +kernel
theorem dX7_records_69 : decode cX7_records 69 = .ok (.getfield 149, 3) := by decide +kernel
theorem dX7_records_72 : decode cX7_records 72 = .ok (.invokevirtual 286, 3) := by decide +kernel
theorem dX7_records_75 : decode cX7_records 75 = .ok (.ireturn, 1) := by decide +kernel
theorem dX7_records_76 : decode cX7_records 76 = .ok (.iconst (-1), 1) := by decide +kernel
theorem dX7_records_77 : decode cX7_records 77 = .ok (.ireturn, 1) := by decide +kernel
theorem dX7_recordPaid_0 : decode cX7_recordPaid 0 = .ok (.aload_n 0, 1) := by decide +kernel
theorem dX7_recordPaid_1 : decode cX7_recordPaid 1 = .ok (.getfield 10, 3) := by decide +kernel
theorem dX7_recordPaid_4 : decode cX7_recordPaid 4 = .ok (.getfield 149, 3) := by decide +kernel
theorem dX7_recordPaid_7 : decode cX7_recordPaid 7 = .ok (.iload_n 1, 1) := by decide +kernel
theorem dX7_recordPaid_8 : decode cX7_recordPaid 8 = .ok (.invokevirtual 269, 3) := by decide +kernel
theorem dX7_recordPaid_11 : decode cX7_recordPaid 11 = .ok (.ifCond .eq 18, 3) := by decide +kernel
theorem dX7_recordPaid_14 : decode cX7_recordPaid 14 = .ok (.aload_n 0, 1) := by decide +kernel
theorem dX7_recordPaid_15 : decode cX7_recordPaid 15 = .ok (.getfield 10, 3) := by decide +kernel
theorem dX7_recordPaid_18 : decode cX7_recordPaid 18 = .ok (.getfield 149, 3) := by decide +kernel
theorem dX7_recordPaid_21 : decode cX7_recordPaid 21 = .ok (.getfield 289, 3) := by decide +kernel
theorem dX7_recordPaid_24 : decode cX7_recordPaid 24 = .ok (.iload_n 1, 1) := by decide +kernel
theorem dX7_recordPaid_25 : decode cX7_recordPaid 25 = .ok (.laload, 1) := by decide +kernel
theorem dX7_recordPaid_26 : decode cX7_recordPaid 26 = .ok (.goto 6, 3) := by decide +kernel
theorem dX7_recordPaid_29 : decode cX7_recordPaid 29 = .ok (.ldc2_w 197, 3) := by decide +kernel
theorem dX7_recordPaid_32 : decode cX7_recordPaid 32 = .ok (.lreturn, 1) := by decide +kernel
theorem dX7_spell_0 : decode cX7_spell 0 = .ok (.iload_n 1, 1) := by decide +kernel
theorem dX7_spell_1 : decode cX7_spell 1 = .ok (.iconst (-1), 1) := by decide +kernel
theorem dX7_spell_2 : decode cX7_spell 2 = .ok (.if_icmp .ge 5, 3) := by decide +kernel
theorem dX7_spell_5 : decode cX7_spell 5 = .ok (.iconst (-1), 1) := by decide +kernel
theorem dX7_spell_6 : decode cX7_spell 6 = .ok (.ireturn, 1) := by decide +kernel
theorem dX7_spell_7 : decode cX7_spell 7 = .ok (.aload_n 0, 1) := by decide +kernel
theorem dX7_spell_8 : decode cX7_spell 8 = .ok (.getfield 57, 3) := by decide +kernel
theorem dX7_spell_11 : decode cX7_spell 11 = .ok (.aload_n 0, 1) := by decide +kernel
theorem dX7_spell_12 : decode cX7_spell 12 = .ok (.getfield 10, 3) := by decide +kernel
theorem dX7_spell_15 : decode cX7_spell 15 = .ok (.iload_n 1, 1) := by decide +kernel
theorem dX7_spell_16 : decode cX7_spell 16 = .ok (.invokevirtual 293, 3) := by decide +kernel
theorem dX7_spell_19 : decode cX7_spell 19 = .ok (.iload_n 1, 1) := by decide +kernel
theorem dX7_spell_20 : decode cX7_spell 20 = .ok (.iconst (-1), 1) := by decide +kernel
theorem dX7_spell_21 : decode cX7_spell 21 = .ok (.if_icmp .ne 11, 3) := by decide +kernel
theorem dX7_spell_24 : decode cX7_spell 24 = .ok (.aload_n 0, 1) := by decide +kernel
theorem dX7_spell_25 : decode cX7_spell 25 = .ok (.getfield 57, 3) := by decide +kernel
theorem dX7_spell_28 : decode cX7_spell 28 = .ok (.getfield 297, 3) := by decide +kernel
theorem dX7_spell_31 : decode cX7_spell 31 = .ok (.ireturn, 1) := by decide +kernel
theorem dX7_spell_32 : decode cX7_spell 32 = .ok (.iload_n 1, 1) := by decide +kernel
theorem dX7_spell_33 : decode cX7_spell 33 = .ok (.aload_n 0, 1) := by decide +kernel
theorem dX7_spell_34 : decode cX7_spell 34 = .ok (.getfield 57, 3) := by decide +kernel
theorem dX7_spell_37 : decode cX7_spell 37 = .ok (.getfield 297, 3) := by decide +kernel
theorem dX7_spell_40 : decode cX7_spell 40 = .ok (.if_icmp .ge 13, 3) := by decide +kernel
theorem dX7_spell_43 : decode cX7_spell 43 = .ok (.aload_n 0, 1) := by decide +kernel
theorem dX7_spell_44 : decode cX7_spell 44 = .ok (.getfield 57, 3) := by decide +kernel
theorem dX7_spell_47 : decode cX7_spell 47 = .ok (.getfield 298, 3) := by decide +kernel
theorem dX7_spell_50 : decode cX7_spell 50 = .ok (.goto 5, 3) := by decide +kernel
theorem dX7_spell_53 : decode cX7_spell 53 = .ok (.bipush (-2), 2) := by decide +kernel
theorem dX7_spell_55 : decode cX7_spell 55 = .ok (.ireturn, 1) := by decide +kernel
theorem dX7_count_0 : decode cX7_count 0 = .ok (.iload_n 1, 1) := by decide +kernel
theorem dX7_count_1 : decode cX7_count 1 = .ok (.tableswitch 128 0 8 #[51, 59, 67, 78, 86, 94, 103, 112, 120], 51) := by decide +kernel
theorem dX7_count_52 : decode cX7_count 52 = .ok (.aload_n 0, 1) := by decide +kernel
theorem dX7_count_53 : decode cX7_count 53 = .ok (.getfield 10, 3) := by decide +kernel
theorem dX7_count_56 : decode cX7_count 56 = .ok (.getfield 83, 3) := by decide +kernel
theorem dX7_count_59 : decode cX7_count 59 = .ok (.ireturn, 1) := by decide +kernel
theorem dX7_count_60 : decode cX7_count 60 = .ok (.aload_n 0, 1) := by decide +kernel
theorem dX7_count_61 : decode cX7_count 61 = .ok (.getfield 10, 3) := by decide +kernel
theorem dX7_count_64 : decode cX7_count 64 = .ok (.invokevirtual 301, 3) := by decide +kernel
theorem dX7_count_67 : decode cX7_count 67 = .ok (.ireturn, 1) := by decide +kernel
theorem dX7_count_68 : decode cX7_count 68 = .ok (.aload_n 0, 1) := by decide +kernel
theorem dX7_count_69 : decode cX7_count 69 = .ok (.getfield 10, 3) := by decide +kernel
theorem dX7_count_72 : decode cX7_count 72 = .ok (.getfield 149, 3) := by decide +kernel
theorem dX7_count_75 : decode cX7_count 75 = .ok (.getfield 304, 3) := by decide +kernel
theorem dX7_count_78 : decode cX7_count 78 = .ok (.ireturn, 1) := by decide +kernel
theorem dX7_count_79 : decode cX7_count 79 = .ok (.aload_n 0, 1) := by decide +kernel
theorem dX7_count_80 : decode cX7_count 80 = .ok (.getfield 34, 3) := by decide +kernel
theorem dX7_count_83 : decode cX7_count 83 = .ok (.getfield 178, 3) := by decide +kernel
theorem dX7_count_86 : decode cX7_count 86 = .ok (.ireturn, 1) := by decide +kernel
theorem dX7_count_87 : decode cX7_count 87 = .ok (.aload_n 0, 1) := by decide +kernel
theorem dX7_count_88 : decode cX7_count 88 = .ok (.getfield 41, 3) := by decide +kernel
theorem dX7_count_91 : decode cX7_count 91 = .ok (.getfield 69, 3) := by decide +kernel
theorem dX7_count_94 : decode cX7_count 94 = .ok (.ireturn, 1) := by decide +kernel
theorem dX7_count_95 : decode cX7_count 95 = .ok (.aload_n 0, 1) := by decide +kernel
theorem dX7_count_96 : decode cX7_count 96 = .ok (.invokevirtual 142, 3) := by decide +kernel
theorem dX7_count_99 : decode cX7_count 99 = .ok (.iconst 1, 1) := by decide +kernel
theorem dX7_count_100 : decode cX7_count 100 = .ok (.invokevirtual 307, 3) := by decide +kernel
theorem dX7_count_103 : decode cX7_count 103 = .ok (.ireturn, 1) := by decide +kernel
theorem dX7_count_104 : decode cX7_count 104 = .ok (.aload_n 0, 1) := by decide +kernel
theorem dX7_count_105 : decode cX7_count 105 = .ok (.invokevirtual 142, 3) := by decide +kernel
theorem dX7_count_108 : decode cX7_count 108 = .ok (.iconst 2, 1) := by decide +kernel
theorem dX7_count_109 : decode cX7_count 109 = .ok (.invokevirtual 307, 3) := by decide +kernel
theorem dX7_count_112 : decode cX7_count 112 = .ok (.ireturn, 1) := by decide +kernel
theorem dX7_count_113 : decode cX7_count 113 = .ok (.aload_n 0, 1) := by decide +kernel
theorem dX7_count_114 : decode cX7_count 114 = .ok (.getfield 10, 3) := by decide +kernel
theorem dX7_count_117 : decode cX7_count 117 = .ok (.invokevirtual 310, 3) := by decide +kernel
theorem dX7_count_120 : decode cX7_count 120 = .ok (.ireturn, 1) := by decide +kernel
theorem dX7_count_121 : decode cX7_count 121 = .ok (.aload_n 0, 1) := by decide +kernel
theorem dX7_count_122 : decode cX7_count 122 = .ok (.getfield 10, 3) := by decide +kernel
theorem dX7_count_125 : decode cX7_count 125 = .ok (.invokevirtual 313, 3) := by decide +kernel
theorem dX7_count_128 : decode cX7_count 128 = .ok (.ireturn, 1) := by decide +kernel
theorem dX7_count_129 : decode cX7_count 129 = .ok (.iconst (-1), 1) := by decide +kernel
