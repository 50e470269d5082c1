theorem dX8_soldBy_40 : decode cX8_soldBy 40 = .ok (.aload_n 0, 1) := by decide +kernel
theorem dX8_soldBy_41 : decode cX8_soldBy 41 = .ok (.getfield 42, 3) := by decide +kernel
theorem dX8_soldBy_44 : decode cX8_soldBy 44 = .ok (.iload_n 1, 1) := by decide +kernel
theorem dX8_soldBy_45 : decode cX8_soldBy 45 = .ok (.iaload, 1) := by decide +kernel
theorem dX8_soldBy_46 : decode cX8_soldBy 46 = .ok (.ireturn, 1) := by decide +kernel
theorem dX8_lotsFor_0 : decode cX8_lotsFor 0 = .ok (.aload_n 0, 1) := by decide +kernel
theorem dX8_lotsFor_1 : decode cX8_lotsFor 1 = .ok (.iload_n 1, 1) := by decide +kernel
theorem dX8_lotsFor_2 : decode cX8_lotsFor 2 = .ok (.invokevirtual 108, 3) := by decide +kernel
theorem dX8_lotsFor_5 : decode cX8_lotsFor 5 = .ok (.ifCond .eq 8, 3) := by decide +kernel
theorem dX8_lotsFor_8 : decode cX8_lotsFor 8 = .ok (.iload_n 2, 1) := by decide +kernel
theorem dX8_lotsFor_9 : decode cX8_lotsFor 9 = .ok (.iconst 1, 1) := by decide +kernel
theorem dX8_lotsFor_10 : decode cX8_lotsFor 10 = .ok (.if_icmp .ge 5, 3) := by decide +kernel
theorem dX8_lotsFor_13 : decode cX8_lotsFor 13 = .ok (.iconst (-1), 1) := by decide +kernel
theorem dX8_lotsFor_14 : decode cX8_lotsFor 14 = .ok (.ireturn, 1) := by decide +kernel
theorem dX8_lotsFor_15 : decode cX8_lotsFor 15 = .ok (.iconst 1, 1) := by decide +kernel
theorem dX8_lotsFor_16 : decode cX8_lotsFor 16 = .ok (.istore_n 3, 1) := by decide +kernel
theorem dX8_lotsFor_17 : decode cX8_lotsFor 17 = .ok (.iload_n 3, 1) := by decide +kernel
theorem dX8_lotsFor_18 : decode cX8_lotsFor 18 = .ok (.sipush 1000, 3) := by decide +kernel
theorem dX8_lotsFor_21 : decode cX8_lotsFor 21 = .ok (.if_icmp .gt 22, 3) := by decide +kernel
theorem dX8_lotsFor_24 : decode cX8_lotsFor 24 = .ok (.aload_n 0, 1) := by decide +kernel
theorem dX8_lotsFor_25 : decode cX8_lotsFor 25 = .ok (.iload_n 1, 1) := by decide +kernel
theorem dX8_lotsFor_26 : decode cX8_lotsFor 26 = .ok (.iconst 2, 1) := by decide +kernel
theorem dX8_lotsFor_27 : decode cX8_lotsFor 27 = .ok (.iload_n 3, 1) := by decide +kernel
theorem dX8_lotsFor_28 : decode cX8_lotsFor 28 = .ok (.invokevirtual 216, 3) := by decide +kernel
theorem dX8_lotsFor_31 : decode cX8_lotsFor 31 = .ok (.iload_n 2, 1) := by decide +kernel
theorem dX8_lotsFor_32 : decode cX8_lotsFor 32 = .ok (.if_icmp .lt 5, 3) := by decide +kernel
theorem dX8_lotsFor_35 : decode cX8_lotsFor 35 = .ok (.iload_n 3, 1) := by decide +kernel
theorem dX8_lotsFor_36 : decode cX8_lotsFor 36 = .ok (.ireturn, 1) := by decide +kernel
theorem dX8_lotsFor_37 : decode cX8_lotsFor 37 = .ok (.iinc 3 1, 3) := by decide +kernel
theorem dX8_lotsFor_40 : decode cX8_lotsFor 40 = .ok (.goto (-23), 3) := by decide +kernel
theorem dX8_lotsFor_43 : decode cX8_lotsFor 43 = .ok (.bipush (-2), 2) := by decide +kernel
theorem dX8_lotsFor_45 : decode cX8_lotsFor 45 = .ok (.ireturn, 1) := by decide +kernel
theorem dX8_bestOffer_0 : decode cX8_bestOffer 0 = .ok (.aload_n 0, 1) := by decide +kernel
theorem dX8_bestOffer_1 : decode cX8_bestOffer 1 = .ok (.invokevirtual 73, 3) := by decide +kernel
theorem dX8_bestOffer_4 : decode cX8_bestOffer 4 = .ok (.ifCond .ne 6, 3) := by decide +kernel
theorem dX8_bestOffer_7 : decode cX8_bestOffer 7 = .ok (.bipush (-2), 2) := by decide +kernel
theorem dX8_bestOffer_9 : decode cX8_bestOffer 9 = .ok (.ireturn, 1) := by decide +kernel
theorem dX8_bestOffer_10 : decode cX8_bestOffer 10 = .ok (.aload_n 0, 1) := by decide +kernel
theorem dX8_bestOffer_11 : decode cX8_bestOffer 11 = .ok (.getfield 13, 3) := by decide +kernel
theorem dX8_bestOffer_14 : decode cX8_bestOffer 14 = .ok (.iconst 0, 1) := by decide +kernel
theorem dX8_bestOffer_15 : decode cX8_bestOffer 15 = .ok (.iaload, 1) := by decide +kernel
theorem dX8_bestOffer_16 : decode cX8_bestOffer 16 = .ok (.istore_n 1, 1) := by decide +kernel
theorem dX8_bestOffer_17 : decode cX8_bestOffer 17 = .ok (.bipush (-2), 2) := by decide +kernel
theorem dX8_bestOffer_19 : decode cX8_bestOffer 19 = .ok (.istore_n 2, 1) := by decide +kernel
theorem dX8_bestOffer_20 : decode cX8_bestOffer 20 = .ok (.ldc2_w 190, 3) := by decide +kernel
theorem dX8_bestOffer_23 : decode cX8_bestOffer 23 = .ok (.lstore_n 3, 1) := by decide +kernel
theorem dX8_bestOffer_24 : decode cX8_bestOffer 24 = .ok (.iconst 1, 1) := by decide +kernel
theorem dX8_bestOffer_25 : decode cX8_bestOffer 25 = .ok (.istore 5, 2) := by decide +kernel
theorem dX8_bestOffer_27 : decode cX8_bestOffer 27 = .ok (.iload 5, 2) := by decide +kernel
theorem dX8_bestOffer_29 : decode cX8_bestOffer 29 = .ok (.sipush 2000, 3) := by decide +kernel
theorem dX8_bestOffer_32 : decode cX8_bestOffer 32 = .ok (.if_icmp .gt 43, 3) := by decide +kernel
theorem dX8_bestOffer_35 : decode cX8_bestOffer 35 = .ok (.aload_n 0, 1) := by decide +kernel
theorem dX8_bestOffer_36 : decode cX8_bestOffer 36 = .ok (.getfield 13, 3) := by decide +kernel
theorem dX8_bestOffer_39 : decode cX8_bestOffer 39 = .ok (.iconst 0, 1) := by decide +kernel
theorem dX8_bestOffer_40 : decode cX8_bestOffer 40 = .ok (.iload 5, 2) := by decide +kernel
theorem dX8_bestOffer_42 : decode cX8_bestOffer 42 = .ok (.iastore, 1) := by decide +kernel
theorem dX8_bestOffer_43 : decode cX8_bestOffer 43 = .ok (.aload_n 0, 1) := by decide +kernel
theorem dX8_bestOffer_44 : decode cX8_bestOffer 44 = .ok (.invokevirtual 174, 3) := by decide +kernel
theorem dX8_bestOffer_47 : decode cX8_bestOffer 47 = .ok (.aload_n 0, 1) := by decide +kernel
theorem dX8_bestOffer_48 : decode cX8_bestOffer 48 = .ok (.invokevirtual 180, 3) := by decide +kernel
theorem dX8_bestOffer_51 : decode cX8_bestOffer 51 = .ok (.lstore 6, 2) := by decide +kernel
theorem dX8_bestOffer_53 : decode cX8_bestOffer 53 = .ok (.lload 6, 2) := by decide +kernel
theorem dX8_bestOffer_55 : decode cX8_bestOffer 55 = .ok (.lload_n 3, 1) := by decide +kernel
theorem dX8_bestOffer_56 : decode cX8_bestOffer 56 = .ok (.lcmp, 1) := by decide +kernel
theorem dX8_bestOffer_57 : decode cX8_bestOffer 57 = .ok (.ifCond .gt 6, 3) := by decide +kernel
theorem dX8_bestOffer_60 : decode cX8_bestOffer 60 = .ok (.goto 9, 3) := by decide +kernel
theorem dX8_bestOffer_63 : decode cX8_bestOffer 63 = .ok (.lload 6, 2) := by decide +kernel
theorem dX8_bestOffer_65 : decode cX8_bestOffer 65 = .ok (.lstore_n 3, 1) := by decide +kernel
theorem dX8_bestOffer_66 : decode cX8_bestOffer 66 = .ok (.iload 5, 2) := by decide +kernel
theorem dX8_bestOffer_68 : decode cX8_bestOffer 68 = .ok (.istore_n 2, 1) := by decide +kernel
theorem dX8_bestOffer_69 : decode cX8_bestOffer 69 = .ok (.iinc 5 1, 3) := by decide +kernel
theorem dX8_bestOffer_72 : decode cX8_bestOffer 72 = .ok (.goto (-45), 3) := by decide +kernel
theorem dX8_bestOffer_75 : decode cX8_bestOffer 75 = .ok (.aload_n 0, 1) := by decide +kernel
theorem dX8_bestOffer_76 : decode cX8_bestOffer 76 = .ok (.getfield 13, 3) := by decide +kernel
theorem dX8_bestOffer_79 : decode cX8_bestOffer 79 = .ok (.iconst 0, 1) := by decide +kernel
theorem dX8_bestOffer_80 : decode cX8_bestOffer 80 = .ok (.iload_n 1, 1) := by decide +kernel
theorem dX8_bestOffer_81 : decode cX8_bestOffer 81 = .ok (.iastore, 1) := by decide +kernel
theorem dX8_bestOffer_82 : decode cX8_bestOffer 82 = .ok (.iload_n 2, 1) := by decide +kernel
theorem dX8_bestOffer_83 : decode cX8_bestOffer 83 = .ok (.ireturn, 1) := by decide +kernel
theorem dX8_paidBy_0 : decode cX8_paidBy 0 = .ok (.iload_n 1, 1) := by decide +kernel
theorem dX8_paidBy_1 : decode cX8_paidBy 1 = .ok (.iconst 0, 1) := by decide +kernel
theorem dX8_paidBy_2 : decode cX8_paidBy 2 = .ok (.iconst 1, 1) := by decide +kernel
theorem dX8_paidBy_3 : decode cX8_paidBy 3 = .ok (.invokestatic 69, 3) := by decide +kernel
theorem dX8_paidBy_6 : decode cX8_paidBy 6 = .ok (.ifCond .ne 7, 3) := by decide +kernel
theorem dX8_paidBy_9 : decode cX8_paidBy 9 = .ok (.ldc2_w 190, 3) := by decide +kernel
theorem dX8_paidBy_12 : decode cX8_paidBy 12 = .ok (.lreturn, 1) := by decide +kernel
theorem dX8_paidBy_13 : decode cX8_paidBy 13 = .ok (.aload_n 0, 1) := by decide +kernel
theorem dX8_paidBy_14 : decode cX8_paidBy 14 = .ok (.getfield 13, 3) := by decide +kernel
theorem dX8_paidBy_17 : decode cX8_paidBy 17 = .ok (.bipush 6, 2) := by decide +kernel
theorem dX8_paidBy_19 : decode cX8_paidBy 19 = .ok (.iaload, 1) := by decide +kernel
theorem dX8_paidBy_20 : decode cX8_paidBy 20 = .ok (.istore_n 2, 1) := by decide +kernel
theorem dX8_paidBy_21 : decode cX8_paidBy 21 = .ok (.aload_n 0, 1) := by decide +kernel
theorem dX8_paidBy_22 : decode cX8_paidBy 22 = .ok (.getfield 13, 3) := by decide +kernel
theorem dX8_paidBy_25 : decode cX8_paidBy 25 = .ok (.bipush 6, 2) := by decide +kernel
theorem dX8_paidBy_27 : decode cX8_paidBy 27 = .ok (.iload_n 1, 1) := by decide +kernel
theorem dX8_paidBy_28 : decode cX8_paidBy 28 = .ok (.iastore, 1) := by decide +kernel
theorem dX8_paidBy_29 : decode cX8_paidBy 29 = .ok (.aload_n 0, 1) := by decide +kernel
theorem dX8_paidBy_30 : decode cX8_paidBy 30 = .ok (.invokevirtual 174, 3) := by decide +kernel
theorem dX8_paidBy_33 : decode cX8_paidBy 33 = .ok (.aload_n 0, 1) := by decide +kernel
theorem dX8_paidBy_34 : decode cX8_paidBy 34 = .ok (.invokevirtual 180, 3) := by decide +kernel
theorem dX8_paidBy_37 : decode cX8_paidBy 37 = .ok (.lstore_n 3, 1) := by decide +kernel
theorem dX8_paidBy_38 : decode cX8_paidBy 38 = .ok (.aload_n 0, 1) := by decide +kernel
theorem dX8_paidBy_39 : decode cX8_paidBy 39 = .ok (.getfield 13, 3) := by decide +kernel
theorem dX8_paidBy_42 : decode cX8_paidBy 42 = .ok (.bipush 6, 2) := by decide +kernel
theorem dX8_paidBy_44 : decode cX8_paidBy 44 = .ok (.iload_n 2, 1) := by decide +kernel
theorem dX8_paidBy_45 : decode cX8_paidBy 45 = .ok (.iastore, 1) := by decide +kernel
theorem dX8_paidBy_46 : decode cX8_paidBy 46 = .ok (.lload_n 3, 1) := by decide +kernel
theorem dX8_paidBy_47 : decode cX8_paidBy 47 = .ok (.lreturn, 1) := by decide +kernel
theorem dX8_soldAt_0 : decode cX8_soldAt 0 = .ok (.aload_n 0, 1) := by decide +kernel
theorem dX8_soldAt_1 : decode cX8_soldAt 1 = .ok (.iload_n 1, 1) := by decide +kernel
theorem dX8_soldAt_2 : decode cX8_soldAt 2 = .ok (.invokevirtual 108, 3) := by decide +kernel
theorem dX8_soldAt_5 : decode cX8_soldAt 5 = .ok (.ifCond .eq 28, 3) := by decide +kernel
theorem dX8_soldAt_8 : decode cX8_soldAt 8 = .ok (.aload_n 0, 1) := by decide +kernel
theorem dX8_soldAt_9 : decode cX8_soldAt 9 = .ok (.iload_n 1, 1) := by decide +kernel
theorem dX8_soldAt_10 : decode cX8_soldAt 10 = .ok (.invokevirtual 115, 3) := by decide +kernel
theorem dX8_soldAt_13 : decode cX8_soldAt 13 = .ok (.ifCond .ne 20, 3) := by decide +kernel
theorem dX8_soldAt_16 : decode cX8_soldAt 16 = .ok (.iload_n 2, 1) := by decide +kernel
theorem dX8_soldAt_17 : decode cX8_soldAt 17 = .ok (.invokestatic 99, 3) := by decide +kernel
theorem dX8_soldAt_20 : decode cX8_soldAt 20 = .ok (.ifCond .eq 13, 3) := by decide +kernel
theorem dX8_soldAt_23 : decode cX8_soldAt 23 = .ok (.aload_n 0, 1) := by decide +kernel
theorem dX8_soldAt_24 : decode cX8_soldAt 24 = .ok (.iload_n 1, 1) := by decide +kernel
theorem dX8_soldAt_25 : decode cX8_soldAt 25 = .ok (.iconst 1, 1) := by decide +kernel
theorem dX8_soldAt_26 : decode cX8_soldAt 26 = .ok (.iload_n 2, 1) := by decide +kernel
theorem dX8_soldAt_27 : decode cX8_soldAt 27 = .ok (.invokevirtual 216, 3) := by decide +kernel
theorem dX8_soldAt_30 : decode cX8_soldAt 30 = .ok (.goto 4, 3) := by decide +kernel
theorem dX8_soldAt_33 : decode cX8_soldAt 33 = .ok (.iconst (-1), 1) := by decide +kernel
theorem dX8_soldAt_34 : decode cX8_soldAt 34 = .ok (.ireturn, 1) := by decide +kernel
theorem dX8_yieldFor_0 : decode cX8_yieldFor 0 = .ok (.aload_n 0, 1) := by decide +kernel
theorem dX8_yieldFor_1 : decode cX8_yieldFor 1 = .ok (.iload_n 1, 1) := by decide +kernel
theorem dX8_yieldFor_2 : decode cX8_yieldFor 2 = .ok (.invokevirtual 108, 3) := by decide +kernel
theorem dX8_yieldFor_5 : decode cX8_yieldFor 5 = .ok (.ifCond .eq 16, 3) := by decide +kernel
theorem dX8_yieldFor_8 : decode cX8_yieldFor 8 = .ok (.aload_n 0, 1) := by decide +kernel
theorem dX8_yieldFor_9 : decode cX8_yieldFor 9 = .ok (.iload_n 1, 1) := by decide +kernel
theorem dX8_yieldFor_10 : decode cX8_yieldFor 10 = .ok (.invokevirtual 115, 3) := by decide +kernel
theorem dX8_yieldFor_13 : decode cX8_yieldFor 13 = .ok (.ifCond .ne 8, 3) := by decide +kernel
theorem dX8_yieldFor_16 : decode cX8_yieldFor 16 = .ok (.iload_n 2, 1) := by decide +kernel
theorem dX8_yieldFor_17 : decode cX8_yieldFor 17 = .ok (.iconst 1, 1) := by decide +kernel
theorem dX8_yieldFor_18 : decode cX8_yieldFor 18 = .ok (.if_icmp .ge 5, 3) := by decide +kernel
theorem dX8_yieldFor_21 : decode cX8_yieldFor 21 = .ok (.iconst (-1), 1) := by decide +kernel
theorem dX8_yieldFor_22 : decode cX8_yieldFor 22 = .ok (.ireturn, 1) := by decide +kernel
theorem dX8_yieldFor_23 : decode cX8_yieldFor 23 = .ok (.sipush 999, 3) := by decide +kernel
theorem dX8_yieldFor_26 : decode cX8_yieldFor 26 = .ok (.istore_n 3, 1) := by decide +kernel
theorem dX8_yieldFor_27 : decode cX8_yieldFor 27 = .ok (.iload_n 3, 1) := by decide +kernel
theorem dX8_yieldFor_28 : decode cX8_yieldFor 28 = .ok (.ifCond .lt 22, 3) := by decide +kernel
theorem dX8_yieldFor_31 : decode cX8_yieldFor 31 = .ok (.aload_n 0, 1) := by decide +kernel
theorem dX8_yieldFor_32 : decode cX8_yieldFor 32 = .ok (.iload_n 1, 1) := by decide +kernel
theorem dX8_yieldFor_33 : decode cX8_yieldFor 33 = .ok (.iconst 1, 1) := by decide +kernel
theorem dX8_yieldFor_34 : decode cX8_yieldFor 34 = .ok (.iload_n 3, 1) := by decide +kernel
theorem dX8_yieldFor_35 : decode cX8_yieldFor 35 = .ok (.invokevirtual 216, 3) := by decide +kernel
theorem dX8_yieldFor_38 : decode cX8_yieldFor 38 = .ok (.iload_n 2, 1) := by decide +kernel
theorem dX8_yieldFor_39 : decode cX8_yieldFor 39 = .ok (.if_icmp .lt 5, 3) := by decide +kernel
theorem dX8_yieldFor_42 : decode cX8_yieldFor 42 = .ok (.iload_n 3, 1) := by decide +kernel
theorem dX8_yieldFor_43 : decode cX8_yieldFor 43 = .ok (.ireturn, 1) := by decide +kernel
theorem dX8_yieldFor_44 : decode cX8_yieldFor 44 = .ok (.iinc 3 (-1), 3) := by decide +kernel
theorem dX8_yieldFor_47 : decode cX8_yieldFor 47 = .ok (.goto (-20), 3) := by decide +kernel
theorem dX8_yieldFor_50 : decode cX8_yieldFor 50 = .ok (.bipush (-2), 2) := by decide +kernel
theorem dX8_yieldFor_52 : decode cX8_yieldFor 52 = .ok (.ireturn, 1) := by decide +kernel
theorem dX8_soldAllAt_0 : decode cX8_soldAllAt 0 = .ok (.iload_n 1, 1) := by decide +kernel
theorem dX8_soldAllAt_1 : decode cX8_soldAllAt 1 = .ok (.invokestatic 95, 3) := by decide +kernel
theorem dX8_soldAllAt_4 : decode cX8_soldAllAt 4 = .ok (.ifCond .eq 10, 3) := by decide +kernel
theorem dX8_soldAllAt_7 : decode cX8_soldAllAt 7 = .ok (.iload_n 2, 1) := by decide +kernel
theorem dX8_soldAllAt_8 : decode cX8_soldAllAt 8 = .ok (.invokestatic 99, 3) := by decide +kernel
theorem dX8_soldAllAt_11 : decode cX8_soldAllAt 11 = .ok (.ifCond .ne 5, 3) := by decide +kernel
theorem dX8_soldAllAt_14 : decode cX8_soldAllAt 14 = .ok (.iconst (-1), 1) := by decide +kernel
theorem dX8_soldAllAt_15 : decode cX8_soldAllAt 15 = .ok (.ireturn, 1) := by decide +kernel
theorem dX8_soldAllAt_16 : decode cX8_soldAllAt 16 = .ok (.aload_n 0, 1) := by decide +kernel
theorem dX8_soldAllAt_17 : decode cX8_soldAllAt 17 = .ok (.invokevirtual 219, 3) := by decide +kernel
theorem dX8_soldAllAt_20 : decode cX8_soldAllAt 20 = .ok (.iconst 0, 1) := by decide +kernel
theorem dX8_soldAllAt_21 : decode cX8_soldAllAt 21 = .ok (.istore_n 3, 1) := by decide +kernel
theorem dX8_soldAllAt_22 : decode cX8_soldAllAt 22 = .ok (.iload_n 3, 1) := by decide +kernel
theorem dX8_soldAllAt_23 : decode cX8_soldAllAt 23 = .ok (.aload_n 0, 1) := by decide +kernel
theorem dX8_soldAllAt_24 : decode cX8_soldAllAt 24 = .ok (.invokevirtual 73, 3) := by decide +kernel
theorem dX8_soldAllAt_27 : decode cX8_soldAllAt 27 = .ok (.if_icmp .ge 38, 3) := by decide +kernel
theorem dX8_soldAllAt_30 : decode cX8_soldAllAt 30 = .ok (.aload_n 0, 1) := by decide +kernel
theorem dX8_soldAllAt_31 : decode cX8_soldAllAt 31 = .ok (.iload_n 3, 1) := by decide +kernel
theorem dX8_soldAllAt_32 : decode cX8_soldAllAt 32 = .ok (.invokevirtual 81, 3) := by decide +kernel
theorem dX8_soldAllAt_35 : decode cX8_soldAllAt 35 = .ok (.iload_n 1, 1) := by decide +kernel
theorem dX8_soldAllAt_36 : decode cX8_soldAllAt 36 = .ok (.if_icmp .ne 23, 3) := by decide +kernel
theorem dX8_soldAllAt_39 : decode cX8_soldAllAt 39 = .ok (.aload_n 0, 1) := by decide +kernel
theorem dX8_soldAllAt_40 : decode cX8_soldAllAt 40 = .ok (.iload_n 3, 1) := by decide +kernel
theorem dX8_soldAllAt_41 : decode cX8_soldAllAt 41 = .ok (.invokevirtual 115, 3) := by decide +kernel
theorem dX8_soldAllAt_44 : decode cX8_soldAllAt 44 = .ok (.ifCond .ne 15, 3) := by decide +kernel
theorem dX8_soldAllAt_47 : decode cX8_soldAllAt 47 = .ok (.aload_n 0, 1) := by decide +kernel
theorem dX8_soldAllAt_48 : decode cX8_soldAllAt 48 = .ok (.iload_n 3, 1) := by decide +kernel
theorem dX8_soldAllAt_49 : decode cX8_soldAllAt 49 = .ok (.iload_n 1, 1) := by decide +kernel
theorem dX8_soldAllAt_50 : decode cX8_soldAllAt 50 = .ok (.iload_n 2, 1) := by decide +kernel
theorem dX8_soldAllAt_51 : decode cX8_soldAllAt 51 = .ok (.aload_n 0, 1) := by decide +kernel
theorem dX8_soldAllAt_52 : decode cX8_soldAllAt 52 = .ok (.iload_n 3, 1) := by decide +kernel
theorem dX8_soldAllAt_53 : decode cX8_soldAllAt 53 = .ok (.invokevirtual 84, 3) := by decide +kernel
theorem dX8_soldAllAt_56 : decode cX8_soldAllAt 56 = .ok (.invokevirtual 87, 3) := by decide +kernel
theorem dX8_soldAllAt_59 : decode cX8_soldAllAt 59 = .ok (.iinc 3 1, 3) := by decide +kernel
theorem dX8_soldAllAt_62 : decode cX8_soldAllAt 62 = .ok (.goto (-40), 3) := by decide +kernel
theorem dX8_soldAllAt_65 : decode cX8_soldAllAt 65 = .ok (.aload_n 0, 1) := by decide +kernel
theorem dX8_soldAllAt_66 : decode cX8_soldAllAt 66 = .ok (.invokevirtual 174, 3) := by decide +kernel
theorem dX8_soldAllAt_69 : decode cX8_soldAllAt 69 = .ok (.aload_n 0, 1) := by decide +kernel
theorem dX8_soldAllAt_70 : decode cX8_soldAllAt 70 = .ok (.iload_n 1, 1) := by decide +kernel
theorem dX8_soldAllAt_71 : decode cX8_soldAllAt 71 = .ok (.invokevirtual 184, 3) := by decide +kernel
theorem dX8_soldAllAt_74 : decode cX8_soldAllAt 74 = .ok (.istore_n 3, 1) := by decide +kernel
theorem dX8_soldAllAt_75 : decode cX8_soldAllAt 75 = .ok (.aload_n 0, 1) := by decide +kernel
theorem dX8_soldAllAt_76 : decode cX8_soldAllAt 76 = .ok (.invokevirtual 222, 3) := by decide +kernel
theorem dX8_soldAllAt_79 : decode cX8_soldAllAt 79 = .ok (.iload_n 3, 1) := by decide +kernel
theorem dX8_soldAllAt_80 : decode cX8_soldAllAt 80 = .ok (.ireturn, 1) := by decide +kernel
theorem dX8_stopWithout_0 : decode cX8_stopWithout 0 = .ok (.aload_n 0, 1) := by decide +kernel
theorem dX8_stopWithout_1 : decode cX8_stopWithout 1 = .ok (.iload_n 1, 1) := by decide +kernel
theorem dX8_stopWithout_2 : decode cX8_stopWithout 2 = .ok (.invokevirtual 108, 3) := by decide +kernel
theorem dX8_stopWithout_5 : decode cX8_stopWithout 5 = .ok (.ifCond .ne 5, 3) := by decide +kernel
theorem dX8_stopWithout_8 : decode cX8_stopWithout 8 = .ok (.iconst (-1), 1) := by decide +kernel
theorem dX8_stopWithout_9 : decode cX8_stopWithout 9 = .ok (.ireturn, 1) := by decide +kernel
theorem dX8_stopWithout_10 : decode cX8_stopWithout 10 = .ok (.aload_n 0, 1) := by decide +kernel
theorem dX8_stopWithout_11 : decode cX8_stopWithout 11 = .ok (.invokevirtual 219, 3) := by decide +kernel
theorem dX8_stopWithout_14 : decode cX8_stopWithout 14 = .ok (.aload_n 0, 1) := by decide +kernel
theorem dX8_stopWithout_15 : decode cX8_stopWithout 15 = .ok (.iload_n 1, 1) := by decide +kernel
theorem dX8_stopWithout_16 : decode cX8_stopWithout 16 = .ok (.invokevirtual 111, 3) := by decide +kernel
theorem dX8_stopWithout_19 : decode cX8_stopWithout 19 = .ok (.aload_n 0, 1) := by decide +kernel
theorem dX8_stopWithout_20 : decode cX8_stopWithout 20 = .ok (.invokevirtual 174, 3) := by decide +kernel
theorem dX8_stopWithout_23 : decode cX8_stopWithout 23 = .ok (.aload_n 0, 1) := by decide +kernel
theorem dX8_stopWithout_24 : decode cX8_stopWithout 24 = .ok (.invokevirtual 222, 3) := by decide +kernel
theorem dX8_stopWithout_27 : decode cX8_stopWithout 27 = .ok (.aload_n 0, 1) := by decide +kernel
theorem dX8_stopWithout_28 : decode cX8_stopWithout 28 = .ok (.getfield 153, 3) := by decide +kernel
theorem dX8_stopWithout_31 : decode cX8_stopWithout 31 = .ok (.ireturn, 1) := by decide +kernel
theorem dX8_pivot_0 : decode cX8_pivot 0 = .ok (.iconst (-1), 1) := by decide +kernel
theorem dX8_pivot_1 : decode cX8_pivot 1 = .ok (.istore_n 1, 1) := by decide +kernel
theorem dX8_pivot_2 : decode cX8_pivot 2 = .ok (.bipush (-2), 2) := by decide +kernel
theorem dX8_pivot_4 : decode cX8_pivot 4 = .ok (.istore_n 2, 1) := by decide +kernel
theorem dX8_pivot_5 : decode cX8_pivot 5 = .ok (.iconst 0, 1) := by decide +kernel
theorem dX8_pivot_6 : decode cX8_pivot 6 = .ok (.istore_n 3, 1) := by decide +kernel
theorem dX8_pivot_7 : decode cX8_pivot 7 = .ok (.iload_n 3, 1) := by decide +kernel
theorem dX8_pivot_8 : decode cX8_pivot 8 = .ok (.bipush 8, 2) := by decide +kernel
theorem dX8_pivot_10 : decode cX8_pivot 10 = .ok (.if_icmp .ge 79, 3) := by decide +kernel
theorem dX8_pivot_13 : decode cX8_pivot 13 = .ok (.aload_n 0, 1) := by decide +kernel
theorem dX8_pivot_14 : decode cX8_pivot 14 = .ok (.invokevirtual 219, 3) := by decide +kernel
theorem dX8_pivot_17 : decode cX8_pivot 17 = .ok (.aload_n 0, 1) := by decide +kernel
theorem dX8_pivot_18 : decode cX8_pivot 18 = .ok (.invokevirtual 73, 3) := by decide +kernel
theorem dX8_pivot_21 : decode cX8_pivot 21 = .ok (.iconst 1, 1) := by decide +kernel
theorem dX8_pivot_22 : decode cX8_pivot 22 = .ok (.isub, 1) := by decide +kernel
theorem dX8_pivot_23 : decode cX8_pivot 23 = .ok (.istore 4, 2) := by decide +kernel
theorem dX8_pivot_25 : decode cX8_pivot 25 = .ok (.iload 4, 2) := by decide +kernel
theorem dX8_pivot_27 : decode cX8_pivot 27 = .ok (.ifCond .lt 25, 3) := by decide +kernel
theorem dX8_pivot_30 : decode cX8_pivot 30 = .ok (.aload_n 0, 1) := by decide +kernel
theorem dX8_pivot_31 : decode cX8_pivot 31 = .ok (.iload 4, 2) := by decide +kernel
theorem dX8_pivot_33 : decode cX8_pivot 33 = .ok (.invokevirtual 81, 3) := by decide +kernel
theorem dX8_pivot_36 : decode cX8_pivot 36 = .ok (.iload_n 3, 1) := by decide +kernel
theorem dX8_pivot_37 : decode cX8_pivot 37 = .ok (.if_icmp .ne 9, 3) := by decide +kernel
theorem dX8_pivot_40 : decode cX8_pivot 40 = .ok (.aload_n 0, 1) := by decide +kernel
theorem dX8_pivot_41 : decode cX8_pivot 41 = .ok (.iload 4, 2) := by decide +kernel
theorem dX8_pivot_43 : decode cX8_pivot 43 = .ok (.invokevirtual 111, 3) := by decide +kernel
theorem dX8_pivot_46 : decode cX8_pivot 46 = .ok (.iinc 4 (-1), 3) := by decide +kernel
theorem dX8_pivot_49 : decode cX8_pivot 49 = .ok (.goto (-24), 3) := by decide +kernel
theorem dX8_pivot_52 : decode cX8_pivot 52 = .ok (.aload_n 0, 1) := by decide +kernel
theorem dX8_pivot_53 : decode cX8_pivot 53 = .ok (.invokevirtual 174, 3) := by decide +kernel
theorem dX8_pivot_56 : decode cX8_pivot 56 = .ok (.aload_n 0, 1) := by decide +kernel
theorem dX8_pivot_57 : decode cX8_pivot 57 = .ok (.invokevirtual 222, 3) := by decide +kernel
theorem dX8_pivot_60 : decode cX8_pivot 60 = .ok (.iload_n 1, 1) := by decide +kernel
theorem dX8_pivot_61 : decode cX8_pivot 61 = .ok (.iconst (-1), 1) := by decide +kernel
theorem dX8_pivot_62 : decode cX8_pivot 62 = .ok (.if_icmp .eq 14, 3) := by decide +kernel
theorem dX8_pivot_65 : decode cX8_pivot 65 = .ok (.aload_n 0, 1) := by decide +kernel
theorem dX8_pivot_66 : decode cX8_pivot 66 = .ok (.getfield 153, 3) := by decide +kernel
theorem dX8_pivot_69 : decode cX8_pivot 69 = .ok (.iload_n 2, 1) := by decide +kernel
theorem dX8_pivot_70 : decode cX8_pivot 70 = .ok (.if_icmp .gt 6, 3) := by decide +kernel
theorem dX8_pivot_73 : decode cX8_pivot 73 = .ok (.goto 10, 3) := by decide +kernel
theorem dX8_pivot_76 : decode cX8_pivot 76 = .ok (.iload_n 3, 1) := by decide +kernel
theorem dX8_pivot_77 : decode cX8_pivot 77 = .ok (.istore_n 1, 1) := by decide +kernel
theorem dX8_pivot_78 : decode cX8_pivot 78 = .ok (.aload_n 0, 1) := by decide +kernel
theorem dX8_pivot_79 : decode cX8_pivot 79 = .ok (.getfield 153, 3) := by decide +kernel
theorem dX8_pivot_82 : decode cX8_pivot 82 = .ok (.istore_n 2, 1) := by decide +kernel
theorem dX8_pivot_83 : decode cX8_pivot 83 = .ok (.iinc 3 1, 3) := by decide +kernel
theorem dX8_pivot_86 : decode cX8_pivot 86 = .ok (.goto (-79), 3) := by decide +kernel
theorem dX8_pivot_89 : decode cX8_pivot 89 = .ok (.iload_n 1, 1) := by decide +kernel
theorem dX8_pivot_90 : decode cX8_pivot 90 = .ok (.ireturn, 1) := by decide +kernel
theorem dX8_writesWord_0 : decode cX8_writesWord 0 = .ok (.aload_n 0, 1) := by decide +kernel
theorem dX8_writesWord_1 : decode cX8_writesWord 1 = .ok (.iload_n 1, 1) := by decide +kernel
theorem dX8_writesWord_2 : decode cX8_writesWord 2 = .ok (.invokevirtual 225, 3) := by decide +kernel
theorem dX8_writesWord_5 : decode cX8_writesWord 5 = .ok (.istore_n 2, 1) := by decide +kernel
theorem dX8_writesWord_6 : decode cX8_writesWord 6 = .ok (.aload_n 0, 1) := by decide +kernel
theorem dX8_writesWord_7 : decode cX8_writesWord 7 = .ok (.getfield 58, 3) := by decide +kernel
theorem dX8_writesWord_10 : decode cX8_writesWord 10 = .ok (.iload_n 2, 1) := by decide +kernel
theorem dX8_writesWord_11 : decode cX8_writesWord 11 = .ok (.baload, 1) := by decide +kernel
theorem dX8_writesWord_12 : decode cX8_writesWord 12 = .ok (.ifCond .eq 19, 3) := by decide +kernel
theorem dX8_writesWord_15 : decode cX8_writesWord 15 = .ok (.aload_n 0, 1) := by decide +kernel
theorem dX8_writesWord_16 : decode cX8_writesWord 16 = .ok (.aload_n 0, 1) := by decide +kernel
theorem dX8_writesWord_17 : decode cX8_writesWord 17 = .ok (.getfield 58, 3) := by decide +kernel
theorem dX8_writesWord_20 : decode cX8_writesWord 20 = .ok (.iload_n 2, 1) := by decide +kernel
theorem dX8_writesWord_21 : decode cX8_writesWord 21 = .ok (.baload, 1) := by decide +kernel
theorem dX8_writesWord_22 : decode cX8_writesWord 22 = .ok (.invokevirtual 228, 3) := by decide +kernel
theorem dX8_writesWord_25 : decode cX8_writesWord 25 = .ok (.iinc 2 1, 3) := by decide +kernel
theorem dX8_writesWord_28 : decode cX8_writesWord 28 = .ok (.goto (-22), 3) := by decide +kernel
theorem dX8_writesWord_31 : decode cX8_writesWord 31 = .ok (.return_, 1) := by decide +kernel
theorem dX8_writes_0 : decode cX8_writes 0 = .ok (.aload_n 0, 1) := by decide +kernel
theorem dX8_writes_1 : decode cX8_writes 1 = .ok (.getfield 52, 3) := by decide +kernel
theorem dX8_writes_4 : decode cX8_writes 4 = .ok (.aload_n 0, 1) := by decide +kernel
theorem dX8_writes_5 : decode cX8_writes 5 = .ok (.getfield 231, 3) := by decide +kernel
theorem dX8_writes_8 : decode cX8_writes 8 = .ok (.iload_n 1, 1) := by decide +kernel
theorem dX8_writes_9 : decode cX8_writes 9 = .ok (.iastore, 1) := by decide +kernel
theorem dX8_writes_10 : decode cX8_writes 10 = .ok (.aload_n 0, 1) := by decide +kernel
theorem dX8_writes_11 : decode cX8_writes 11 = .ok (.dup, 1) := by decide +kernel
theorem dX8_writes_12 : decode cX8_writes 12 = .ok (.getfield 231, 3) := by decide +kernel
theorem dX8_writes_15 : decode cX8_writes 15 = .ok (.iconst 1, 1) := by decide +kernel
theorem dX8_writes_16 : decode cX8_writes 16 = .ok (.iadd, 1) := by decide +kernel
theorem dX8_writes_17 : decode cX8_writes 17 = .ok (.putfield 231, 3) := by decide +kernel
theorem dX8_writes_20 : decode cX8_writes 20 = .ok (.return_, 1) := by decide +kernel
theorem dX8_writesNumber_0 : decode cX8_writesNumber 0 = .ok (.aload_n 0, 1) := by decide +kernel
theorem dX8_writesNumber_1 : decode cX8_writesNumber 1 = .ok (.bipush 32, 2) := by decide +kernel
theorem dX8_writesNumber_3 : decode cX8_writesNumber 3 = .ok (.invokevirtual 228, 3) := by decide +kernel
theorem dX8_writesNumber_6 : decode cX8_writesNumber 6 = .ok (.iconst 1, 1) := by decide +kernel
theorem dX8_writesNumber_7 : decode cX8_writesNumber 7 = .ok (.istore_n 2, 1) := by decide +kernel
theorem dX8_writesNumber_8 : decode cX8_writesNumber 8 = .ok (.iload_n 1, 1) := by decide +kernel
theorem dX8_writesNumber_9 : decode cX8_writesNumber 9 = .ok (.iload_n 2, 1) := by decide +kernel
theorem dX8_writesNumber_10 : decode cX8_writesNumber 10 = .ok (.idiv, 1) := by decide +kernel
theorem dX8_writesNumber_11 : decode cX8_writesNumber 11 = .ok (.bipush 9, 2) := by decide +kernel
theorem dX8_writesNumber_13 : decode cX8_writesNumber 13 = .ok (.if_icmp .le 11, 3) := by decide +kernel
theorem dX8_writesNumber_16 : decode cX8_writesNumber 16 = .ok (.iload_n 2, 1) := by decide +kernel
theorem dX8_writesNumber_17 : decode cX8_writesNumber 17 = .ok (.bipush 10, 2) := by decide +kernel
theorem dX8_writesNumber_19 : decode cX8_writesNumber 19 = .ok (.imul, 1) := by decide +kernel
theorem dX8_writesNumber_20 : decode cX8_writesNumber 20 = .ok (.istore_n 2, 1) := by decide +kernel
theorem dX8_writesNumber_21 : decode cX8_writesNumber 21 = .ok (.goto (-13), 3) := by decide +kernel
theorem dX8_writesNumber_24 : decode cX8_writesNumber 24 = .ok (.iload_n 2, 1) := by decide +kernel
theorem dX8_writesNumber_25 : decode cX8_writesNumber 25 = .ok (.ifCond .le 24, 3) := by decide +kernel
theorem dX8_writesNumber_28 : decode cX8_writesNumber 28 = .ok (.aload_n 0, 1) := by decide +kernel
theorem dX8_writesNumber_29 : decode cX8_writesNumber 29 = .ok (.bipush 48, 2) := by decide +kernel
theorem dX8_writesNumber_31 : decode cX8_writesNumber 31 = .ok (.iload_n 1, 1) := by decide +kernel
theorem dX8_writesNumber_32 : decode cX8_writesNumber 32 = .ok (.iload_n 2, 1) := by decide +kernel
theorem dX8_writesNumber_33 : decode cX8_writesNumber 33 = .ok (.idiv, 1) := by decide +kernel
theorem dX8_writesNumber_34 : decode cX8_writesNumber 34 = .ok (.bipush 10, 2) := by decide +kernel
theorem dX8_writesNumber_36 : decode cX8_writesNumber 36 = .ok (.irem, 1) := by decide +kernel
theorem dX8_writesNumber_37 : decode cX8_writesNumber 37 = .ok (.iadd, 1) := by decide +kernel
theorem dX8_writesNumber_38 : decode cX8_writesNumber 38 = .ok (.invokevirtual 228, 3) := by decide +kernel
theorem dX8_writesNumber_41 : decode cX8_writesNumber 41 = .ok (.iload_n 2, 1) := by decide +kernel
theorem dX8_writesNumber_42 : decode cX8_writesNumber 42 = .ok (.bipush 10, 2) := by decide +kernel
theorem dX8_writesNumber_44 : decode cX8_writesNumber 44 = .ok (.idiv, 1) := by decide +kernel
theorem dX8_writesNumber_45 : decode cX8_writesNumber 45 = .ok (.istore_n 2, 1) := by decide +kernel
theorem dX8_writesNumber_46 : decode cX8_writesNumber 46 = .ok (.goto (-22), 3) := by decide +kernel
theorem dX8_writesNumber_49 : decode cX8_writesNumber 49 = .ok (.return_, 1) := by decide +kernel
theorem dX8_writesOne_0 : decode cX8_writesOne 0 = .ok (.aload_n 0, 1) := by decide +kernel
theorem dX8_writesOne_1 : decode cX8_writesOne 1 = .ok (.iload_n 1, 1) := by decide +kernel
theorem dX8_writesOne_2 : decode cX8_writesOne 2 = .ok (.invokevirtual 234, 3) := by decide +kernel
theorem dX8_writesOne_5 : decode cX8_writesOne 5 = .ok (.aload_n 0, 1) := by decide +kernel
theorem dX8_writesOne_6 : decode cX8_writesOne 6 = .ok (.iload_n 2, 1) := by decide +kernel
theorem dX8_writesOne_7 : decode cX8_writesOne 7 = .ok (.invokevirtual 237, 3) := by decide +kernel
theorem dX8_writesOne_10 : decode cX8_writesOne 10 = .ok (.aload_n 0, 1) := by decide +kernel
theorem dX8_writesOne_11 : decode cX8_writesOne 11 = .ok (.bipush 59, 2) := by decide +kernel
theorem dX8_writesOne_13 : decode cX8_writesOne 13 = .ok (.invokevirtual 228, 3) := by decide +kernel
theorem dX8_writesOne_16 : decode cX8_writesOne 16 = .ok (.return_, 1) := by decide +kernel
theorem dX8_writesAll_0 : decode cX8_writesAll 0 = .ok (.aload_n 0, 1) := by decide +kernel
theorem dX8_writesAll_1 : decode cX8_writesAll 1 = .ok (.iconst 0, 1) := by decide +kernel
theorem dX8_writesAll_2 : decode cX8_writesAll 2 = .ok (.putfield 231, 3) := by decide +kernel
theorem dX8_writesAll_5 : decode cX8_writesAll 5 = .ok (.aload_n 0, 1) := by decide +kernel
theorem dX8_writesAll_6 : decode cX8_writesAll 6 = .ok (.iconst 0, 1) := by decide +kernel
theorem dX8_writesAll_7 : decode cX8_writesAll 7 = .ok (.aload_n 0, 1) := by decide +kernel
theorem dX8_writesAll_8 : decode cX8_writesAll 8 = .ok (.getfield 13, 3) := by decide +kernel
theorem dX8_writesAll_11 : decode cX8_writesAll 11 = .ok (.iconst 0, 1) := by decide +kernel
theorem dX8_writesAll_12 : decode cX8_writesAll 12 = .ok (.iaload, 1) := by decide +kernel
theorem dX8_writesAll_13 : decode cX8_writesAll 13 = .ok (.invokevirtual 240, 3) := by decide +kernel
theorem dX8_writesAll_16 : decode cX8_writesAll 16 = .ok (.aload_n 0, 1) := by decide +kernel
theorem dX8_writesAll_17 : decode cX8_writesAll 17 = .ok (.iconst 1, 1) := by decide +kernel
theorem dX8_writesAll_18 : decode cX8_writesAll 18 = .ok (.aload_n 0, 1) := by decide +kernel
theorem dX8_writesAll_19 : decode cX8_writesAll 19 = .ok (.getfield 13, 3) := by decide +kernel
theorem dX8_writesAll_22 : decode cX8_writesAll 22 = .ok (.iconst 1, 1) := by decide +kernel
theorem dX8_writesAll_23 : decode cX8_writesAll 23 = .ok (.iaload, 1) := by decide +kernel
theorem dX8_writesAll_24 : decode cX8_writesAll 24 = .ok (.invokevirtual 240, 3) := by decide +kernel
theorem dX8_writesAll_27 : decode cX8_writesAll 27 = .ok (.aload_n 0, 1) := by decide +kernel
theorem dX8_writesAll_28 : decode cX8_writesAll 28 = .ok (.iconst 2, 1) := by decide +kernel
theorem dX8_writesAll_29 : decode cX8_writesAll 29 = .ok (.aload_n 0, 1) := by decide +kernel
theorem dX8_writesAll_30 : decode cX8_writesAll 30 = .ok (.getfield 13, 3) := by decide +kernel
theorem dX8_writesAll_33 : decode cX8_writesAll 33 = .ok (.iconst 2, 1) := by decide +kernel
theorem dX8_writesAll_34 : decode cX8_writesAll 34 = .ok (.iaload, 1) := by decide +kernel
theorem dX8_writesAll_35 : decode cX8_writesAll 35 = .ok (.invokevirtual 240, 3) := by decide +kernel
theorem dX8_writesAll_38 : decode cX8_writesAll 38 = .ok (.aload_n 0, 1) := by decide +kernel
theorem dX8_writesAll_39 : decode cX8_writesAll 39 = .ok (.iconst 3, 1) := by decide +kernel
theorem dX8_writesAll_40 : decode cX8_writesAll 40 = .ok (.invokevirtual 234, 3) := by decide +kernel
theorem dX8_writesAll_43 : decode cX8_writesAll 43 = .ok (.aload_n 0, 1) := by decide +kernel
theorem dX8_writesAll_44 : decode cX8_writesAll 44 = .ok (.aload_n 0, 1) := by decide +kernel
theorem dX8_writesAll_45 : decode cX8_writesAll 45 = .ok (.getfield 13, 3) := by decide +kernel
theorem dX8_writesAll_48 : decode cX8_writesAll 48 = .ok (.iconst 3, 1) := by decide +kernel
theorem dX8_writesAll_49 : decode cX8_writesAll 49 = .ok (.iaload, 1) := by decide +kernel
theorem dX8_writesAll_50 : decode cX8_writesAll 50 = .ok (.invokevirtual 237, 3) := by decide +kernel
theorem dX8_writesAll_53 : decode cX8_writesAll 53 = .ok (.aload_n 0, 1) := by decide +kernel
theorem dX8_writesAll_54 : decode cX8_writesAll 54 = .ok (.bipush 32, 2) := by decide +kernel
theorem dX8_writesAll_56 : decode cX8_writesAll 56 = .ok (.invokevirtual 228, 3) := by decide +kernel
theorem dX8_writesAll_59 : decode cX8_writesAll 59 = .ok (.aload_n 0, 1) := by decide +kernel
theorem dX8_writesAll_60 : decode cX8_writesAll 60 = .ok (.iconst 4, 1) := by decide +kernel
theorem dX8_writesAll_61 : decode cX8_writesAll 61 = .ok (.invokevirtual 234, 3) := by decide +kernel
theorem dX8_writesAll_64 : decode cX8_writesAll 64 = .ok (.aload_n 0, 1) := by decide +kernel
theorem dX8_writesAll_65 : decode cX8_writesAll 65 = .ok (.aload_n 0, 1) := by decide +kernel
theorem dX8_writesAll_66 : decode cX8_writesAll 66 = .ok (.getfield 13, 3) := by decide +kernel
theorem dX8_writesAll_69 : decode cX8_writesAll 69 = .ok (.iconst 4, 1) := by decide +kernel
theorem dX8_writesAll_70 : decode cX8_writesAll 70 = .ok (.iaload, 1) := by decide +kernel
theorem dX8_writesAll_71 : decode cX8_writesAll 71 = .ok (.invokevirtual 237, 3) := by decide +kernel
theorem dX8_writesAll_74 : decode cX8_writesAll 74 = .ok (.aload_n 0, 1) := by decide +kernel
theorem dX8_writesAll_75 : decode cX8_writesAll 75 = .ok (.bipush 59, 2) := by decide +kernel
theorem dX8_writesAll_77 : decode cX8_writesAll 77 = .ok (.invokevirtual 228, 3) := by decide +kernel
theorem dX8_writesAll_80 : decode cX8_writesAll 80 = .ok (.aload_n 0, 1) := by decide +kernel
theorem dX8_writesAll_81 : decode cX8_writesAll 81 = .ok (.iconst 5, 1) := by decide +kernel
theorem dX8_writesAll_82 : decode cX8_writesAll 82 = .ok (.aload_n 0, 1) := by decide +kernel
theorem dX8_writesAll_83 : decode cX8_writesAll 83 = .ok (.getfield 13, 3) := by decide +kernel
theorem dX8_writesAll_86 : decode cX8_writesAll 86 = .ok (.iconst 5, 1) := by decide +kernel
theorem dX8_writesAll_87 : decode cX8_writesAll 87 = .ok (.iaload, 1) := by decide +kernel
theorem dX8_writesAll_88 : decode cX8_writesAll 88 = .ok (.invokevirtual 240, 3) := by decide +kernel
theorem dX8_writesAll_91 : decode cX8_writesAll 91 = .ok (.aload_n 0, 1) := by decide +kernel
theorem dX8_writesAll_92 : decode cX8_writesAll 92 = .ok (.aload_n 0, 1) := by decide +kernel
theorem dX8_writesAll_93 : decode cX8_writesAll 93 = .ok (.getfield 13, 3) := by decide +kernel
theorem dX8_writesAll_96 : decode cX8_writesAll 96 = .ok (.bipush 6, 2) := by decide +kernel
theorem dX8_writesAll_98 : decode cX8_writesAll 98 = .ok (.iaload, 1) := by decide +kernel
theorem dX8_writesAll_99 : decode cX8_writesAll 99 = .ok (.ifCond .ne 8, 3) := by decide +kernel
theorem dX8_writesAll_102 : decode cX8_writesAll 102 = .ok (.bipush 6, 2) := by decide +kernel
theorem dX8_writesAll_104 : decode cX8_writesAll 104 = .ok (.goto 5, 3) := by decide +kernel
theorem dX8_writesAll_107 : decode cX8_writesAll 107 = .ok (.bipush 7, 2) := by decide +kernel
theorem dX8_writesAll_109 : decode cX8_writesAll 109 = .ok (.invokevirtual 234, 3) := by decide +kernel
theorem dX8_writesAll_112 : decode cX8_writesAll 112 = .ok (.aload_n 0, 1) := by decide +kernel
theorem dX8_writesAll_113 : decode cX8_writesAll 113 = .ok (.bipush 59, 2) := by decide +kernel
theorem dX8_writesAll_115 : decode cX8_writesAll 115 = .ok (.invokevirtual 228, 3) := by decide +kernel
theorem dX8_writesAll_118 : decode cX8_writesAll 118 = .ok (.iconst 0, 1) := by decide +kernel
theorem dX8_writesAll_119 : decode cX8_writesAll 119 = .ok (.istore_n 1, 1) := by decide +kernel
theorem dX8_writesAll_120 : decode cX8_writesAll 120 = .ok (.iload_n 1, 1) := by decide +kernel
theorem dX8_writesAll_121 : decode cX8_writesAll 121 = .ok (.bipush 8, 2) := by decide +kernel
theorem dX8_writesAll_123 : decode cX8_writesAll 123 = .ok (.if_icmp .ge 37, 3) := by decide +kernel
theorem dX8_writesAll_126 : decode cX8_writesAll 126 = .ok (.aload_n 0, 1) := by decide +kernel
theorem dX8_writesAll_127 : decode cX8_writesAll 127 = .ok (.getfield 13, 3) := by decide +kernel
theorem dX8_writesAll_130 : decode cX8_writesAll 130 = .ok (.bipush 7, 2) := by decide +kernel
theorem dX8_writesAll_132 : decode cX8_writesAll 132 = .ok (.iload_n 1, 1) := by decide +kernel
theorem dX8_writesAll_133 : decode cX8_writesAll 133 = .ok (.iadd, 1) := by decide +kernel
theorem dX8_writesAll_134 : decode cX8_writesAll 134 = .ok (.iaload, 1) := by decide +kernel
theorem dX8_writesAll_135 : decode cX8_writesAll 135 = .ok (.ifCond .le 19, 3) := by decide +kernel
theorem dX8_writesAll_138 : decode cX8_writesAll 138 = .ok (.aload_n 0, 1) := by decide +kernel
theorem dX8_writesAll_139 : decode cX8_writesAll 139 = .ok (.bipush 8, 2) := by decide +kernel
theorem dX8_writesAll_141 : decode cX8_writesAll 141 = .ok (.iload_n 1, 1) := by decide +kernel
theorem dX8_writesAll_142 : decode cX8_writesAll 142 = .ok (.aload_n 0, 1) := by decide +kernel
theorem dX8_writesAll_143 : decode cX8_writesAll 143 = .ok (.getfield 13, 3) := by decide +kernel
theorem dX8_writesAll_146 : decode cX8_writesAll 146 = .ok (.bipush 7, 2) := by decide +kernel
theorem dX8_writesAll_148 : decode cX8_writesAll 148 = .ok (.iload_n 1, 1) := by decide +kernel
theorem dX8_writesAll_149 : decode cX8_writesAll 149 = .ok (.iadd, 1) := by decide +kernel
theorem dX8_writesAll_150 : decode cX8_writesAll 150 = .ok (.iaload, 1) := by decide +kernel
theorem dX8_writesAll_151 : decode cX8_writesAll 151 = .ok (.invokevirtual 243, 3) := by decide +kernel
theorem dX8_writesAll_154 : decode cX8_writesAll 154 = .ok (.iinc 1 1, 3) := by decide +kernel
theorem dX8_writesAll_157 : decode cX8_writesAll 157 = .ok (.goto (-37), 3) := by decide +kernel
theorem dX8_writesAll_160 : decode cX8_writesAll 160 = .ok (.iconst 0, 1) := by decide +kernel
theorem dX8_writesAll_161 : decode cX8_writesAll 161 = .ok (.istore_n 1, 1) := by decide +kernel
theorem dX8_writesAll_162 : decode cX8_writesAll 162 = .ok (.iload_n 1, 1) := by decide +kernel
theorem dX8_writesAll_163 : decode cX8_writesAll 163 = .ok (.bipush 8, 2) := by decide +kernel
theorem dX8_writesAll_165 : decode cX8_writesAll 165 = .ok (.if_icmp .ge 38, 3) := by decide +kernel
theorem dX8_writesAll_168 : decode cX8_writesAll 168 = .ok (.aload_n 0, 1) := by decide +kernel
theorem dX8_writesAll_169 : decode cX8_writesAll 169 = .ok (.getfield 13, 3) := by decide +kernel
theorem dX8_writesAll_172 : decode cX8_writesAll 172 = .ok (.bipush 15, 2) := by decide +kernel
theorem dX8_writesAll_174 : decode cX8_writesAll 174 = .ok (.iload_n 1, 1) := by decide +kernel
theorem dX8_writesAll_175 : decode cX8_writesAll 175 = .ok (.iadd, 1) := by decide +kernel
theorem dX8_writesAll_176 : decode cX8_writesAll 176 = .ok (.iaload, 1) := by decide +kernel
theorem dX8_writesAll_177 : decode cX8_writesAll 177 = .ok (.iload_n 1, 1) := by decide +kernel
theorem dX8_writesAll_178 : decode cX8_writesAll 178 = .ok (.if_icmp .eq 19, 3) := by decide +kernel
theorem dX8_writesAll_181 : decode cX8_writesAll 181 = .ok (.aload_n 0, 1) := by decide +kernel
theorem dX8_writesAll_182 : decode cX8_writesAll 182 = .ok (.bipush 9, 2) := by decide +kernel
theorem dX8_writesAll_184 : decode cX8_writesAll 184 = .ok (.iload_n 1, 1) := by decide +kernel
theorem dX8_writesAll_185 : decode cX8_writesAll 185 = .ok (.aload_n 0, 1) := by decide +kernel
theorem dX8_writesAll_186 : decode cX8_writesAll 186 = .ok (.getfield 13, 3) := by decide +kernel
theorem dX8_writesAll_189 : decode cX8_writesAll 189 = .ok (.bipush 15, 2) := by decide +kernel
theorem dX8_writesAll_191 : decode cX8_writesAll 191 = .ok (.iload_n 1, 1) := by decide +kernel
theorem dX8_writesAll_192 : decode cX8_writesAll 192 = .ok (.iadd, 1) := by decide +kernel
theorem dX8_writesAll_193 : decode cX8_writesAll 193 = .ok (.iaload, 1) := by decide +kernel
theorem dX8_writesAll_194 : decode cX8_writesAll 194 = .ok (.invokevirtual 243, 3) := by decide +kernel
theorem dX8_writesAll_197 : decode cX8_writesAll 197 = .ok (.iinc 1 1, 3) := by decide +kernel
theorem dX8_writesAll_200 : decode cX8_writesAll 200 = .ok (.goto (-38), 3) := by decide +kernel
theorem dX8_writesAll_203 : decode cX8_writesAll 203 = .ok (.iconst 0, 1) := by decide +kernel
theorem dX8_writesAll_204 : decode cX8_writesAll 204 = .ok (.istore_n 1, 1) := by decide +kernel
theorem dX8_writesAll_205 : decode cX8_writesAll 205 = .ok (.iload_n 1, 1) := by decide +kernel
theorem dX8_writesAll_206 : decode cX8_writesAll 206 = .ok (.aload_n 0, 1) := by decide +kernel
theorem dX8_writesAll_207 : decode cX8_writesAll 207 = .ok (.invokevirtual 73, 3) := by decide +kernel
theorem dX8_writesAll_210 : decode cX8_writesAll 210 = .ok (.if_icmp .ge 81, 3) := by decide +kernel
theorem dX8_writesAll_213 : decode cX8_writesAll 213 = .ok (.aload_n 0, 1) := by decide +kernel
theorem dX8_writesAll_214 : decode cX8_writesAll 214 = .ok (.aload_n 0, 1) := by decide +kernel
theorem dX8_writesAll_215 : decode cX8_writesAll 215 = .ok (.iload_n 1, 1) := by decide +kernel
theorem dX8_writesAll_216 : decode cX8_writesAll 216 = .ok (.invokevirtual 115, 3) := by decide +kernel
theorem dX8_writesAll_219 : decode cX8_writesAll 219 = .ok (.ifCond .eq 8, 3) := by decide +kernel
theorem dX8_writesAll_222 : decode cX8_writesAll 222 = .ok (.bipush 12, 2) := by decide +kernel
theorem dX8_writesAll_224 : decode cX8_writesAll 224 = .ok (.goto 5, 3) := by decide +kernel
theorem dX8_writesAll_227 : decode cX8_writesAll 227 = .ok (.bipush 10, 2) := by decide +kernel
theorem dX8_writesAll_229 : decode cX8_writesAll 229 = .ok (.invokevirtual 234, 3) := by decide +kernel
theorem dX8_writesAll_232 : decode cX8_writesAll 232 = .ok (.aload_n 0, 1) := by decide +kernel
theorem dX8_writesAll_233 : decode cX8_writesAll 233 = .ok (.aload_n 0, 1) := by decide +kernel
theorem dX8_writesAll_234 : decode cX8_writesAll 234 = .ok (.iload_n 1, 1) := by decide +kernel
theorem dX8_writesAll_235 : decode cX8_writesAll 235 = .ok (.invokevirtual 81, 3) := by decide +kernel
theorem dX8_writesAll_238 : decode cX8_writesAll 238 = .ok (.invokevirtual 237, 3) := by decide +kernel
theorem dX8_writesAll_241 : decode cX8_writesAll 241 = .ok (.aload_n 0, 1) := by decide +kernel
theorem dX8_writesAll_242 : decode cX8_writesAll 242 = .ok (.iload_n 1, 1) := by decide +kernel
theorem dX8_writesAll_243 : decode cX8_writesAll 243 = .ok (.invokevirtual 115, 3) := by decide +kernel
theorem dX8_writesAll_246 : decode cX8_writesAll 246 = .ok (.ifCond .ne 12, 3) := by decide +kernel
theorem dX8_writesAll_249 : decode cX8_writesAll 249 = .ok (.aload_n 0, 1) := by decide +kernel
theorem dX8_writesAll_250 : decode cX8_writesAll 250 = .ok (.aload_n 0, 1) := by decide +kernel
theorem dX8_writesAll_251 : decode cX8_writesAll 251 = .ok (.iload_n 1, 1) := by decide +kernel
theorem dX8_writesAll_252 : decode cX8_writesAll 252 = .ok (.invokevirtual 77, 3) := by decide +kernel
theorem dX8_writesAll_255 : decode cX8_writesAll 255 = .ok (.invokevirtual 237, 3) := by decide +kernel
theorem dX8_writesAll_258 : decode cX8_writesAll 258 = .ok (.aload_n 0, 1) := by decide +kernel
theorem dX8_writesAll_259 : decode cX8_writesAll 259 = .ok (.bipush 32, 2) := by decide +kernel
theorem dX8_writesAll_261 : decode cX8_writesAll 261 = .ok (.invokevirtual 228, 3) := by decide +kernel
theorem dX8_writesAll_264 : decode cX8_writesAll 264 = .ok (.aload_n 0, 1) := by decide +kernel
theorem dX8_writesAll_265 : decode cX8_writesAll 265 = .ok (.bipush 11, 2) := by decide +kernel
theorem dX8_writesAll_267 : decode cX8_writesAll 267 = .ok (.invokevirtual 234, 3) := by decide +kernel
theorem dX8_writesAll_270 : decode cX8_writesAll 270 = .ok (.aload_n 0, 1) := by decide +kernel
theorem dX8_writesAll_271 : decode cX8_writesAll 271 = .ok (.aload_n 0, 1) := by decide +kernel
theorem dX8_writesAll_272 : decode cX8_writesAll 272 = .ok (.iload_n 1, 1) := by decide +kernel
theorem dX8_writesAll_273 : decode cX8_writesAll 273 = .ok (.invokevirtual 84, 3) := by decide +kernel
theorem dX8_writesAll_276 : decode cX8_writesAll 276 = .ok (.invokevirtual 237, 3) := by decide +kernel
theorem dX8_writesAll_279 : decode cX8_writesAll 279 = .ok (.aload_n 0, 1) := by decide +kernel
theorem dX8_writesAll_280 : decode cX8_writesAll 280 = .ok (.bipush 59, 2) := by decide +kernel
theorem dX8_writesAll_282 : decode cX8_writesAll 282 = .ok (.invokevirtual 228, 3) := by decide +kernel
theorem dX8_writesAll_285 : decode cX8_writesAll 285 = .ok (.iinc 1 1, 3) := by decide +kernel
theorem dX8_writesAll_288 : decode cX8_writesAll 288 = .ok (.goto (-83), 3) := by decide +kernel
theorem dX8_writesAll_291 : decode cX8_writesAll 291 = .ok (.return_, 1) := by decide +kernel
theorem dX8_writesTwo_0 : decode cX8_writesTwo 0 = .ok (.aload_n 0, 1) := by decide +kernel
theorem dX8_writesTwo_1 : decode cX8_writesTwo 1 = .ok (.iload_n 1, 1) := by decide +kernel
theorem dX8_writesTwo_2 : decode cX8_writesTwo 2 = .ok (.invokevirtual 234, 3) := by decide +kernel
theorem dX8_writesTwo_5 : decode cX8_writesTwo 5 = .ok (.aload_n 0, 1) := by decide +kernel
theorem dX8_writesTwo_6 : decode cX8_writesTwo 6 = .ok (.iload_n 2, 1) := by decide +kernel
theorem dX8_writesTwo_7 : decode cX8_writesTwo 7 = .ok (.invokevirtual 237, 3) := by decide +kernel
theorem dX8_writesTwo_10 : decode cX8_writesTwo 10 = .ok (.aload_n 0, 1) := by decide +kernel
theorem dX8_writesTwo_11 : decode cX8_writesTwo 11 = .ok (.iload_n 3, 1) := by decide +kernel
theorem dX8_writesTwo_12 : decode cX8_writesTwo 12 = .ok (.invokevirtual 237, 3) := by decide +kernel
theorem dX8_writesTwo_15 : decode cX8_writesTwo 15 = .ok (.aload_n 0, 1) := by decide +kernel
theorem dX8_writesTwo_16 : decode cX8_writesTwo 16 = .ok (.bipush 59, 2) := by decide +kernel
theorem dX8_writesTwo_18 : decode cX8_writesTwo 18 = .ok (.invokevirtual 228, 3) := by decide +kernel
theorem dX8_writesTwo_21 : decode cX8_writesTwo 21 = .ok (.return_, 1) := by decide +kernel
theorem dX8_spell_0 : decode cX8_spell 0 = .ok (.iload_n 1, 1) := by decide +kernel
theorem dX8_spell_1 : decode cX8_spell 1 = .ok (.iconst (-1), 1) := by decide +kernel
theorem dX8_spell_2 : decode cX8_spell 2 = .ok (.if_icmp .ge 5, 3) := by decide +kernel
theorem dX8_spell_5 : decode cX8_spell 5 = .ok (.iconst (-1), 1) := by decide +kernel
theorem dX8_spell_6 : decode cX8_spell 6 = .ok (.ireturn, 1) := by decide +kernel
theorem dX8_spell_7 : decode cX8_spell 7 = .ok (.aload_n 0, 1) := by decide +kernel
theorem dX8_spell_8 : decode cX8_spell 8 = .ok (.invokevirtual 247, 3) := by decide +kernel
theorem dX8_spell_11 : decode cX8_spell 11 = .ok (.iload_n 1, 1) := by decide +kernel
theorem dX8_spell_12 : decode cX8_spell 12 = .ok (.iconst (-1), 1) := by decide +kernel
theorem dX8_spell_13 : decode cX8_spell 13 = .ok (.if_icmp .ne 10, 3) := by decide +kernel
theorem dX8_spell_16 : decode cX8_spell 16 = .ok (.aload_n 0, 1) := by decide +kernel
theorem dX8_spell_17 : decode cX8_spell 17 = .ok (.getfield 231, 3) := by decide +kernel
theorem dX8_spell_20 : decode cX8_spell 20 = .ok (.goto 22, 3) := by decide +kernel
theorem dX8_spell_23 : decode cX8_spell 23 = .ok (.iload_n 1, 1) := by decide +kernel
theorem dX8_spell_24 : decode cX8_spell 24 = .ok (.aload_n 0, 1) := by decide +kernel
theorem dX8_spell_25 : decode cX8_spell 25 = .ok (.getfield 231, 3) := by decide +kernel
theorem dX8_spell_28 : decode cX8_spell 28 = .ok (.if_icmp .ge 12, 3) := by decide +kernel
theorem dX8_spell_31 : decode cX8_spell 31 = .ok (.aload_n 0, 1) := by decide +kernel
theorem dX8_spell_32 : decode cX8_spell 32 = .ok (.getfield 52, 3) := by decide +kernel
theorem dX8_spell_35 : decode cX8_spell 35 = .ok (.iload_n 1, 1) := by decide +kernel
theorem dX8_spell_36 : decode cX8_spell 36 = .ok (.iaload, 1) := by decide +kernel
theorem dX8_spell_37 : decode cX8_spell 37 = .ok (.goto 5, 3) := by decide +kernel
theorem dX8_spell_40 : decode cX8_spell 40 = .ok (.bipush (-2), 2) := by decide +kernel
theorem dX8_spell_42 : decode cX8_spell 42 = .ok (.ireturn, 1) := by decide +kernel
theorem dX8_count_0 : decode cX8_count 0 = .ok (.iconst 0, 1) := by decide +kernel
theorem dX8_count_1 : decode cX8_count 1 = .ok (.istore_n 2, 1) := by decide +kernel
theorem dX8_count_2 : decode cX8_count 2 = .ok (.aload_n 0, 1) := by decide +kernel
theorem dX8_count_3 : decode cX8_count 3 = .ok (.invokevirtual 174, 3) := by decide +kernel
theorem dX8_count_6 : decode cX8_count 6 = .ok (.iload_n 1, 1) := by decide +kernel
theorem dX8_count_7 : decode cX8_count 7 = .ok (.tableswitch 188 0 8 #[49, 54, 83, 91, 96, 101, 101, 134, 161], 49) := by decide +kernel
theorem dX8_count_56 : decode cX8_count 56 = .ok (.aload_n 0, 1) := by decide +kernel
theorem dX8_count_57 : decode cX8_count 57 = .ok (.invokevirtual 73, 3) := by decide +kernel
theorem dX8_count_60 : decode cX8_count 60 = .ok (.ireturn, 1) := by decide +kernel
theorem dX8_count_61 : decode cX8_count 61 = .ok (.iconst 0, 1) := by decide +kernel
theorem dX8_count_62 : decode cX8_count 62 = .ok (.istore_n 3, 1) := by decide +kernel
theorem dX8_count_63 : decode cX8_count 63 = .ok (.iload_n 3, 1) := by decide +kernel
theorem dX8_count_64 : decode cX8_count 64 = .ok (.aload_n 0, 1) := by decide +kernel
theorem dX8_count_65 : decode cX8_count 65 = .ok (.invokevirtual 73, 3) := by decide +kernel
theorem dX8_count_68 : decode cX8_count 68 = .ok (.if_icmp .ge 20, 3) := by decide +kernel
theorem dX8_count_71 : decode cX8_count 71 = .ok (.aload_n 0, 1) := by decide +kernel
theorem dX8_count_72 : decode cX8_count 72 = .ok (.iload_n 3, 1) := by decide +kernel
theorem dX8_count_73 : decode cX8_count 73 = .ok (.invokevirtual 115, 3) := by decide +kernel
theorem dX8_count_76 : decode cX8_count 76 = .ok (.ifCond .eq 6, 3) := by decide +kernel
theorem dX8_count_79 : decode cX8_count 79 = .ok (.iinc 2 1, 3) := by decide +kernel
theorem dX8_count_82 : decode cX8_count 82 = .ok (.iinc 3 1, 3) := by decide +kernel
theorem dX8_count_85 : decode cX8_count 85 = .ok (.goto (-22), 3) := by decide +kernel
theorem dX8_count_88 : decode cX8_count 88 = .ok (.iload_n 2, 1) := by decide +kernel
theorem dX8_count_89 : decode cX8_count 89 = .ok (.ireturn, 1) := by decide +kernel
theorem dX8_count_90 : decode cX8_count 90 = .ok (.aload_n 0, 1) := by decide +kernel
theorem dX8_count_91 : decode cX8_count 91 = .ok (.getfield 13, 3) := by decide +kernel
theorem dX8_count_94 : decode cX8_count 94 = .ok (.bipush 114, 2) := by decide +kernel
theorem dX8_count_96 : decode cX8_count 96 = .ok (.iaload, 1) := by decide +kernel
theorem dX8_count_97 : decode cX8_count 97 = .ok (.ireturn, 1) := by decide +kernel
theorem dX8_count_98 : decode cX8_count 98 = .ok (.aload_n 0, 1) := by decide +kernel
theorem dX8_count_99 : decode cX8_count 99 = .ok (.getfield 66, 3) := by decide +kernel
theorem dX8_count_102 : decode cX8_count 102 = .ok (.ireturn, 1) := by decide +kernel
theorem dX8_count_103 : decode cX8_count 103 = .ok (.aload_n 0, 1) := by decide +kernel
theorem dX8_count_104 : decode cX8_count 104 = .ok (.getfield 250, 3) := by decide +kernel
theorem dX8_count_107 : decode cX8_count 107 = .ok (.ireturn, 1) := by decide +kernel
theorem dX8_count_108 : decode cX8_count 108 = .ok (.iconst 0, 1) := by decide +kernel
theorem dX8_count_109 : decode cX8_count 109 = .ok (.istore_n 3, 1) := by decide +kernel
theorem dX8_count_110 : decode cX8_count 110 = .ok (.iload_n 3, 1) := by decide +kernel
theorem dX8_count_111 : decode cX8_count 111 = .ok (.aload_n 0, 1) := by decide +kernel
theorem dX8_count_112 : decode cX8_count 112 = .ok (.invokevirtual 73, 3) := by decide +kernel
theorem dX8_count_115 : decode cX8_count 115 = .ok (.if_icmp .ge 24, 3) := by decide +kernel
theorem dX8_count_118 : decode cX8_count 118 = .ok (.aload_n 0, 1) := by decide +kernel
theorem dX8_count_119 : decode cX8_count 119 = .ok (.getfield 39, 3) := by decide +kernel
theorem dX8_count_122 : decode cX8_count 122 = .ok (.iload_n 3, 1) := by decide +kernel
theorem dX8_count_123 : decode cX8_count 123 = .ok (.iaload, 1) := by decide +kernel
theorem dX8_count_124 : decode cX8_count 124 = .ok (.iload_n 1, 1) := by decide +kernel
theorem dX8_count_125 : decode cX8_count 125 = .ok (.iconst 4, 1) := by decide +kernel
theorem dX8_count_126 : decode cX8_count 126 = .ok (.isub, 1) := by decide +kernel
theorem dX8_count_127 : decode cX8_count 127 = .ok (.if_icmp .ne 6, 3) := by decide +kernel
theorem dX8_count_130 : decode cX8_count 130 = .ok (.iinc 2 1, 3) := by decide +kernel
theorem dX8_count_133 : decode cX8_count 133 = .ok (.iinc 3 1, 3) := by decide +kernel
theorem dX8_count_136 : decode cX8_count 136 = .ok (.goto (-26), 3) := by decide +kernel
theorem dX8_count_139 : decode cX8_count 139 = .ok (.iload_n 2, 1) := by decide +kernel
theorem dX8_count_140 : decode cX8_count 140 = .ok (.ireturn, 1) := by decide +kernel
theorem dX8_count_141 : decode cX8_count 141 = .ok (.iconst 0, 1) := by decide +kernel
theorem dX8_count_142 : decode cX8_count 142 = .ok (.istore_n 3, 1) := by decide +kernel
theorem dX8_count_143 : decode cX8_count 143 = .ok (.iload_n 3, 1) := by decide +kernel
theorem dX8_count_144 : decode cX8_count 144 = .ok (.bipush 8, 2) := by decide +kernel
theorem dX8_count_146 : decode cX8_count 146 = .ok (.if_icmp .ge 20, 3) := by decide +kernel
theorem dX8_count_149 : decode cX8_count 149 = .ok (.aload_n 0, 1) := by decide +kernel
theorem dX8_count_150 : decode cX8_count 150 = .ok (.iload_n 3, 1) := by decide +kernel
theorem dX8_count_151 : decode cX8_count 151 = .ok (.invokevirtual 253, 3) := by decide +kernel
theorem dX8_count_154 : decode cX8_count 154 = .ok (.ifCond .le 6, 3) := by decide +kernel
theorem dX8_count_157 : decode cX8_count 157 = .ok (.iinc 2 1, 3) := by decide +kernel
theorem dX8_count_160 : decode cX8_count 160 = .ok (.iinc 3 1, 3) := by decide +kernel
theorem dX8_count_163 : decode cX8_count 163 = .ok (.goto (-20), 3) := by decide +kernel
theorem dX8_count_166 : decode cX8_count 166 = .ok (.iload_n 2, 1) := by decide +kernel
theorem dX8_count_167 : decode cX8_count 167 = .ok (.ireturn, 1) := by decide +kernel
theorem dX8_count_168 : decode cX8_count 168 = .ok (.iconst 0, 1) := by decide +kernel
theorem dX8_count_169 : decode cX8_count 169 = .ok (.istore_n 3, 1) := by decide +kernel
theorem dX8_count_170 : decode cX8_count 170 = .ok (.iload_n 3, 1) := by decide +kernel
theorem dX8_count_171 : decode cX8_count 171 = .ok (.bipush 8, 2) := by decide +kernel
theorem dX8_count_173 : decode cX8_count 173 = .ok (.if_icmp .ge 20, 3) := by decide +kernel
theorem dX8_count_176 : decode cX8_count 176 = .ok (.aload_n 0, 1) := by decide +kernel
theorem dX8_count_177 : decode cX8_count 177 = .ok (.iload_n 3, 1) := by decide +kernel
theorem dX8_count_178 : decode cX8_count 178 = .ok (.invokevirtual 192, 3) := by decide +kernel
theorem dX8_count_181 : decode cX8_count 181 = .ok (.ifCond .le 6, 3) := by decide +kernel
theorem dX8_count_184 : decode cX8_count 184 = .ok (.iinc 2 1, 3) := by decide +kernel
theorem dX8_count_187 : decode cX8_count 187 = .ok (.iinc 3 1, 3) := by decide +kernel
theorem dX8_count_190 : decode cX8_count 190 = .ok (.goto (-20), 3) := by decide +kernel
theorem dX8_count_193 : decode cX8_count 193 = .ok (.iload_n 2, 1) := by decide +kernel
theorem dX8_count_194 : decode cX8_count 194 = .ok (.ireturn, 1) := by decide +kernel
theorem dX8_count_195 : decode cX8_count 195 = .ok (.iconst (-1), 1) := by decide +kernel
theorem dX8_count_196 : decode cX8_count 196 = .ok (.ireturn, 1) := by decide +kernel
theorem dX8_bids_0 : decode cX8_bids 0 = .ok (.iconst 0, 1) := by decide +kernel
theorem dX8_bids_1 : decode cX8_bids 1 = .ok (.istore_n 2, 1) := by decide +kernel
theorem dX8_bids_2 : decode cX8_bids 2 = .ok (.iconst 0, 1) := by decide +kernel
theorem dX8_bids_3 : decode cX8_bids 3 = .ok (.istore_n 3, 1) := by decide +kernel
theorem dX8_bids_4 : decode cX8_bids 4 = .ok (.iload_n 3, 1) := by decide +kernel
theorem dX8_bids_5 : decode cX8_bids 5 = .ok (.aload_n 0, 1) := by decide +kernel
theorem dX8_bids_6 : decode cX8_bids 6 = .ok (.invokevirtual 73, 3) := by decide +kernel
theorem dX8_bids_9 : decode cX8_bids 9 = .ok (.if_icmp .ge 21, 3) := by decide +kernel
theorem dX8_bids_12 : decode cX8_bids 12 = .ok (.aload_n 0, 1) := by decide +kernel
theorem dX8_bids_13 : decode cX8_bids 13 = .ok (.iload_n 3, 1) := by decide +kernel
theorem dX8_bids_14 : decode cX8_bids 14 = .ok (.invokevirtual 81, 3) := by decide +kernel
theorem dX8_bids_17 : decode cX8_bids 17 = .ok (.iload_n 1, 1) := by decide +kernel
theorem dX8_bids_18 : decode cX8_bids 18 = .ok (.if_icmp .ne 6, 3) := by decide +kernel
theorem dX8_bids_21 : decode cX8_bids 21 = .ok (.iinc 2 1, 3) := by decide +kernel
theorem dX8_bids_24 : decode cX8_bids 24 = .ok (.iinc 3 1, 3) := by decide +kernel
theorem dX8_bids_27 : decode cX8_bids 27 = .ok (.goto (-23), 3) := by decide +kernel
theorem dX8_bids_30 : decode cX8_bids 30 = .ok (.iload_n 2, 1) := by decide +kernel
theorem dX8_bids_31 : decode cX8_bids 31 = .ok (.ireturn, 1) := by decide +kernel
theorem dX8_feed_0 : decode cX8_feed 0 = .ok (.aload_n 0, 1) := by decide +kernel
theorem dX8_feed_1 : decode cX8_feed 1 = .ok (.getfield 250, 3) := by decide +kernel
theorem dX8_feed_4 : decode cX8_feed 4 = .ok (.bipush 20, 2) := by decide +kernel
theorem dX8_feed_6 : decode cX8_feed 6 = .ok (.iadd, 1) := by decide +kernel
theorem dX8_feed_7 : decode cX8_feed 7 = .ok (.sipush 700, 3) := by decide +kernel
theorem dX8_feed_10 : decode cX8_feed 10 = .ok (.if_icmp .le 5, 3) := by decide +kernel
theorem dX8_feed_13 : decode cX8_feed 13 = .ok (.iconst (-1), 1) := by decide +kernel
theorem dX8_feed_14 : decode cX8_feed 14 = .ok (.ireturn, 1) := by decide +kernel
theorem dX8_feed_15 : decode cX8_feed 15 = .ok (.iconst 0, 1) := by decide +kernel
theorem dX8_feed_16 : decode cX8_feed 16 = .ok (.istore 6, 2) := by decide +kernel
theorem dX8_feed_18 : decode cX8_feed 18 = .ok (.iload 6, 2) := by decide +kernel
theorem dX8_feed_20 : decode cX8_feed 20 = .ok (.bipush 20, 2) := by decide +kernel
theorem dX8_feed_22 : decode cX8_feed 22 = .ok (.if_icmp .ge 93, 3) := by decide +kernel
theorem dX8_feed_25 : decode cX8_feed 25 = .ok (.iload 6, 2) := by decide +kernel
theorem dX8_feed_27 : decode cX8_feed 27 = .ok (.iconst 4, 1) := by decide +kernel
theorem dX8_feed_28 : decode cX8_feed 28 = .ok (.if_icmp .ge 7, 3) := by decide +kernel
theorem dX8_feed_31 : decode cX8_feed 31 = .ok (.iload_n 1, 1) := by decide +kernel
theorem dX8_feed_32 : decode cX8_feed 32 = .ok (.goto 39, 3) := by decide +kernel
theorem dX8_feed_35 : decode cX8_feed 35 = .ok (.iload 6, 2) := by decide +kernel
theorem dX8_feed_37 : decode cX8_feed 37 = .ok (.bipush 8, 2) := by decide +kernel
theorem dX8_feed_39 : decode cX8_feed 39 = .ok (.if_icmp .ge 7, 3) := by decide +kernel
theorem dX8_feed_42 : decode cX8_feed 42 = .ok (.iload_n 2, 1) := by decide +kernel
theorem dX8_feed_43 : decode cX8_feed 43 = .ok (.goto 28, 3) := by decide +kernel
theorem dX8_feed_46 : decode cX8_feed 46 = .ok (.iload 6, 2) := by decide +kernel
theorem dX8_feed_48 : decode cX8_feed 48 = .ok (.bipush 12, 2) := by decide +kernel
theorem dX8_feed_50 : decode cX8_feed 50 = .ok (.if_icmp .ge 7, 3) := by decide +kernel
theorem dX8_feed_53 : decode cX8_feed 53 = .ok (.iload_n 3, 1) := by decide +kernel
theorem dX8_feed_54 : decode cX8_feed 54 = .ok (.goto 17, 3) := by decide +kernel
theorem dX8_feed_57 : decode cX8_feed 57 = .ok (.iload 6, 2) := by decide +kernel
theorem dX8_feed_59 : decode cX8_feed 59 = .ok (.bipush 16, 2) := by decide +kernel
theorem dX8_feed_61 : decode cX8_feed 61 = .ok (.if_icmp .ge 8, 3) := by decide +kernel
theorem dX8_feed_64 : decode cX8_feed 64 = .ok (.iload 4, 2) := by decide +kernel
theorem dX8_feed_66 : decode cX8_feed 66 = .ok (.goto 5, 3) := by decide +kernel
theorem dX8_feed_69 : decode cX8_feed 69 = .ok (.iload 5, 2) := by decide +kernel
theorem dX8_feed_71 : decode cX8_feed 71 = .ok (.istore 7, 2) := by decide +kernel
theorem dX8_feed_73 : decode cX8_feed 73 = .ok (.aload_n 0, 1) := by decide +kernel
theorem dX8_feed_74 : decode cX8_feed 74 = .ok (.getfield 55, 3) := by decide +kernel
theorem dX8_feed_77 : decode cX8_feed 77 = .ok (.aload_n 0, 1) := by decide +kernel
theorem dX8_feed_78 : decode cX8_feed 78 = .ok (.getfield 250, 3) := by decide +kernel
theorem dX8_feed_81 : decode cX8_feed 81 = .ok (.iload 7, 2) := by decide +kernel
theorem dX8_feed_83 : decode cX8_feed 83 = .ok (.bipush 24, 2) := by decide +kernel
theorem dX8_feed_85 : decode cX8_feed 85 = .ok (.bipush 8, 2) := by decide +kernel
theorem dX8_feed_87 : decode cX8_feed 87 = .ok (.iload 6, 2) := by decide +kernel
theorem dX8_feed_89 : decode cX8_feed 89 = .ok (.iconst 4, 1) := by decide +kernel
theorem dX8_feed_90 : decode cX8_feed 90 = .ok (.irem, 1) := by decide +kernel
theorem dX8_feed_91 : decode cX8_feed 91 = .ok (.imul, 1) := by decide +kernel
theorem dX8_feed_92 : decode cX8_feed 92 = .ok (.isub, 1) := by decide +kernel
theorem dX8_feed_93 : decode cX8_feed 93 = .ok (.ishr, 1) := by decide +kernel
theorem dX8_feed_94 : decode cX8_feed 94 = .ok (.sipush 255, 3) := by decide +kernel
theorem dX8_feed_97 : decode cX8_feed 97 = .ok (.iand, 1) := by decide +kernel
theorem dX8_feed_98 : decode cX8_feed 98 = .ok (.iastore, 1) := by decide +kernel
theorem dX8_feed_99 : decode cX8_feed 99 = .ok (.aload_n 0, 1) := by decide +kernel
theorem dX8_feed_100 : decode cX8_feed 100 = .ok (.dup, 1) := by decide +kernel
theorem dX8_feed_101 : decode cX8_feed 101 = .ok (.getfield 250, 3) := by decide +kernel
theorem dX8_feed_104 : decode cX8_feed 104 = .ok (.iconst 1, 1) := by decide +kernel
theorem dX8_feed_105 : decode cX8_feed 105 = .ok (.iadd, 1) := by decide +kernel
theorem dX8_feed_106 : decode cX8_feed 106 = .ok (.putfield 250, 3) := by decide +kernel
theorem dX8_feed_109 : decode cX8_feed 109 = .ok (.iinc 6 1, 3) := by decide +kernel
theorem dX8_feed_112 : decode cX8_feed 112 = .ok (.goto (-94), 3) := by decide +kernel
theorem dX8_feed_115 : decode cX8_feed 115 = .ok (.aload_n 0, 1) := by decide +kernel
theorem dX8_feed_116 : decode cX8_feed 116 = .ok (.getfield 250, 3) := by decide +kernel
theorem dX8_feed_119 : decode cX8_feed 119 = .ok (.ireturn, 1) := by decide +kernel
theorem dX8_back_0 : decode cX8_back 0 = .ok (.iload_n 1, 1) := by decide +kernel
theorem dX8_back_1 : decode cX8_back 1 = .ok (.iconst 0, 1) := by decide +kernel
theorem dX8_back_2 : decode cX8_back 2 = .ok (.aload_n 0, 1) := by decide +kernel
theorem dX8_back_3 : decode cX8_back 3 = .ok (.getfield 250, 3) := by decide +kernel
theorem dX8_back_6 : decode cX8_back 6 = .ok (.invokestatic 69, 3) := by decide +kernel
theorem dX8_back_9 : decode cX8_back 9 = .ok (.ifCond .ne 5, 3) := by decide +kernel
theorem dX8_back_12 : decode cX8_back 12 = .ok (.iconst (-1), 1) := by decide +kernel
theorem dX8_back_13 : decode cX8_back 13 = .ok (.ireturn, 1) := by decide +kernel
theorem dX8_back_14 : decode cX8_back 14 = .ok (.aload_n 0, 1) := by decide +kernel
theorem dX8_back_15 : decode cX8_back 15 = .ok (.dup, 1) := by decide +kernel
theorem dX8_back_16 : decode cX8_back 16 = .ok (.getfield 250, 3) := by decide +kernel
theorem dX8_back_19 : decode cX8_back 19 = .ok (.iload_n 1, 1) := by decide +kernel
theorem dX8_back_20 : decode cX8_back 20 = .ok (.isub, 1) := by decide +kernel
theorem dX8_back_21 : decode cX8_back 21 = .ok (.putfield 250, 3) := by decide +kernel
theorem dX8_back_24 : decode cX8_back 24 = .ok (.aload_n 0, 1) := by decide +kernel
theorem dX8_back_25 : decode cX8_back 25 = .ok (.getfield 250, 3) := by decide +kernel
theorem dX8_back_28 : decode cX8_back 28 = .ok (.ireturn, 1) := by decide +kernel
theorem dX8_wordFrom_0 : decode cX8_wordFrom 0 = .ok (.iconst 0, 1) := by decide +kernel
theorem dX8_wordFrom_1 : decode cX8_wordFrom 1 = .ok (.istore_n 2, 1) := by decide +kernel
theorem dX8_wordFrom_2 : decode cX8_wordFrom 2 = .ok (.iload_n 1, 1) := by decide +kernel
theorem dX8_wordFrom_3 : decode cX8_wordFrom 3 = .ok (.istore_n 3, 1) := by decide +kernel
theorem dX8_wordFrom_4 : decode cX8_wordFrom 4 = .ok (.iload_n 3, 1) := by decide +kernel
theorem dX8_wordFrom_5 : decode cX8_wordFrom 5 = .ok (.ifCond .le 21, 3) := by decide +kernel
theorem dX8_wordFrom_8 : decode cX8_wordFrom 8 = .ok (.aload_n 0, 1) := by decide +kernel
theorem dX8_wordFrom_9 : decode cX8_wordFrom 9 = .ok (.getfield 58, 3) := by decide +kernel
theorem dX8_wordFrom_12 : decode cX8_wordFrom 12 = .ok (.iload_n 2, 1) := by decide +kernel
theorem dX8_wordFrom_13 : decode cX8_wordFrom 13 = .ok (.baload, 1) := by decide +kernel
theorem dX8_wordFrom_14 : decode cX8_wordFrom 14 = .ok (.ifCond .ne 6, 3) := by decide +kernel
theorem dX8_wordFrom_17 : decode cX8_wordFrom 17 = .ok (.iinc 3 (-1), 3) := by decide +kernel
theorem dX8_wordFrom_20 : decode cX8_wordFrom 20 = .ok (.iinc 2 1, 3) := by decide +kernel
theorem dX8_wordFrom_23 : decode cX8_wordFrom 23 = .ok (.goto (-19), 3) := by decide +kernel
theorem dX8_wordFrom_26 : decode cX8_wordFrom 26 = .ok (.iload_n 2, 1) := by decide +kernel
theorem dX8_wordFrom_27 : decode cX8_wordFrom 27 = .ok (.ireturn, 1) := by decide +kernel
theorem dX8_here_0 : decode cX8_here 0 = .ok (.aload_n 0, 1) := by decide +kernel
theorem dX8_here_1 : decode cX8_here 1 = .ok (.getfield 256, 3) := by decide +kernel
theorem dX8_here_4 : decode cX8_here 4 = .ok (.aload_n 0, 1) := by decide +kernel
theorem dX8_here_5 : decode cX8_here 5 = .ok (.getfield 250, 3) := by decide +kernel
theorem dX8_here_8 : decode cX8_here 8 = .ok (.if_icmp .ge 15, 3) := by decide +kernel
theorem dX8_here_11 : decode cX8_here 11 = .ok (.aload_n 0, 1) := by decide +kernel
theorem dX8_here_12 : decode cX8_here 12 = .ok (.getfield 55, 3) := by decide +kernel
theorem dX8_here_15 : decode cX8_here 15 = .ok (.aload_n 0, 1) := by decide +kernel
theorem dX8_here_16 : decode cX8_here 16 = .ok (.getfield 256, 3) := by decide +kernel
theorem dX8_here_19 : decode cX8_here 19 = .ok (.iaload, 1) := by decide +kernel
theorem dX8_here_20 : decode cX8_here 20 = .ok (.goto 4, 3) := by decide +kernel
theorem dX8_here_23 : decode cX8_here 23 = .ok (.iconst (-1), 1) := by decide +kernel
theorem dX8_here_24 : decode cX8_here 24 = .ok (.ireturn, 1) := by decide +kernel
theorem dX8_goesOn_0 : decode cX8_goesOn 0 = .ok (.aload_n 0, 1) := by decide +kernel
theorem dX8_goesOn_1 : decode cX8_goesOn 1 = .ok (.getfield 259, 3) := by decide +kernel
theorem dX8_goesOn_4 : decode cX8_goesOn 4 = .ok (.istore_n 1, 1) := by decide +kernel
theorem dX8_goesOn_5 : decode cX8_goesOn 5 = .ok (.aload_n 0, 1) := by decide +kernel
theorem dX8_goesOn_6 : decode cX8_goesOn 6 = .ok (.getfield 256, 3) := by decide +kernel
theorem dX8_goesOn_9 : decode cX8_goesOn 9 = .ok (.istore_n 2, 1) := by decide +kernel
theorem dX8_goesOn_10 : decode cX8_goesOn 10 = .ok (.aload_n 0, 1) := by decide +kernel
theorem dX8_goesOn_11 : decode cX8_goesOn 11 = .ok (.invokevirtual 262, 3) := by decide +kernel
theorem dX8_goesOn_14 : decode cX8_goesOn 14 = .ok (.bipush 32, 2) := by decide +kernel
theorem dX8_goesOn_16 : decode cX8_goesOn 16 = .ok (.if_icmp .eq 12, 3) := by decide +kernel
theorem dX8_goesOn_19 : decode cX8_goesOn 19 = .ok (.aload_n 0, 1) := by decide +kernel
theorem dX8_goesOn_20 : decode cX8_goesOn 20 = .ok (.invokevirtual 262, 3) := by decide +kernel
theorem dX8_goesOn_23 : decode cX8_goesOn 23 = .ok (.bipush 10, 2) := by decide +kernel
theorem dX8_goesOn_25 : decode cX8_goesOn 25 = .ok (.if_icmp .ne 16, 3) := by decide +kernel
theorem dX8_goesOn_28 : decode cX8_goesOn 28 = .ok (.aload_n 0, 1) := by decide +kernel
theorem dX8_goesOn_29 : decode cX8_goesOn 29 = .ok (.dup, 1) := by decide +kernel
theorem dX8_goesOn_30 : decode cX8_goesOn 30 = .ok (.getfield 256, 3) := by decide +kernel
theorem dX8_goesOn_33 : decode cX8_goesOn 33 = .ok (.iconst 1, 1) := by decide +kernel
theorem dX8_goesOn_34 : decode cX8_goesOn 34 = .ok (.iadd, 1) := by decide +kernel
theorem dX8_goesOn_35 : decode cX8_goesOn 35 = .ok (.putfield 256, 3) := by decide +kernel
theorem dX8_goesOn_38 : decode cX8_goesOn 38 = .ok (.goto (-28), 3) := by decide +kernel
theorem dX8_goesOn_41 : decode cX8_goesOn 41 = .ok (.aload_n 0, 1) := by decide +kernel
theorem dX8_goesOn_42 : decode cX8_goesOn 42 = .ok (.aload_n 0, 1) := by decide +kernel
theorem dX8_goesOn_43 : decode cX8_goesOn 43 = .ok (.getfield 256, 3) := by decide +kernel
theorem dX8_goesOn_46 : decode cX8_goesOn 46 = .ok (.putfield 265, 3) := by decide +kernel
theorem dX8_goesOn_49 : decode cX8_goesOn 49 = .ok (.aload_n 0, 1) := by decide +kernel
theorem dX8_goesOn_50 : decode cX8_goesOn 50 = .ok (.getfield 265, 3) := by decide +kernel
theorem dX8_goesOn_53 : decode cX8_goesOn 53 = .ok (.iload_n 2, 1) := by decide +kernel
theorem dX8_goesOn_54 : decode cX8_goesOn 54 = .ok (.if_icmp .ne 17, 3) := by decide +kernel
theorem dX8_goesOn_57 : decode cX8_goesOn 57 = .ok (.iload_n 1, 1) := by decide +kernel
theorem dX8_goesOn_58 : decode cX8_goesOn 58 = .ok (.iconst 1, 1) := by decide +kernel
theorem dX8_goesOn_59 : decode cX8_goesOn 59 = .ok (.if_icmp .eq 8, 3) := by decide +kernel
theorem dX8_goesOn_62 : decode cX8_goesOn 62 = .ok (.iload_n 1, 1) := by decide +kernel
theorem dX8_goesOn_63 : decode cX8_goesOn 63 = .ok (.iconst 2, 1) := by decide +kernel
theorem dX8_goesOn_64 : decode cX8_goesOn 64 = .ok (.if_icmp .ne 7, 3) := by decide +kernel
theorem dX8_goesOn_67 : decode cX8_goesOn 67 = .ok (.iconst 1, 1) := by decide +kernel
theorem dX8_goesOn_68 : decode cX8_goesOn 68 = .ok (.goto 4, 3) := by decide +kernel
theorem dX8_goesOn_71 : decode cX8_goesOn 71 = .ok (.iconst 0, 1) := by decide +kernel
theorem dX8_goesOn_72 : decode cX8_goesOn 72 = .ok (.istore_n 3, 1) := by decide +kernel
theorem dX8_goesOn_73 : decode cX8_goesOn 73 = .ok (.aload_n 0, 1) := by decide +kernel
theorem dX8_goesOn_74 : decode cX8_goesOn 74 = .ok (.invokevirtual 262, 3) := by decide +kernel
theorem dX8_goesOn_77 : decode cX8_goesOn 77 = .ok (.istore 4, 2) := by decide +kernel
theorem dX8_goesOn_79 : decode cX8_goesOn 79 = .ok (.iload 4, 2) := by decide +kernel
theorem dX8_goesOn_81 : decode cX8_goesOn 81 = .ok (.iconst (-1), 1) := by decide +kernel
theorem dX8_goesOn_82 : decode cX8_goesOn 82 = .ok (.if_icmp .ne 11, 3) := by decide +kernel
theorem dX8_goesOn_85 : decode cX8_goesOn 85 = .ok (.aload_n 0, 1) := by decide +kernel
theorem dX8_goesOn_86 : decode cX8_goesOn 86 = .ok (.iconst 0, 1) := by decide +kernel
theorem dX8_goesOn_87 : decode cX8_goesOn 87 = .ok (.putfield 259, 3) := by decide +kernel
theorem dX8_goesOn_90 : decode cX8_goesOn 90 = .ok (.goto 189, 3) := by decide +kernel
theorem dX8_goesOn_93 : decode cX8_goesOn 93 = .ok (.iload 4, 2) := by decide +kernel
theorem dX8_goesOn_95 : decode cX8_goesOn 95 = .ok (.bipush 97, 2) := by decide +kernel
theorem dX8_goesOn_97 : decode cX8_goesOn 97 = .ok (.bipush 122, 2) := by decide +kernel
theorem dX8_goesOn_99 : decode cX8_goesOn 99 = .ok (.invokestatic 69, 3) := by decide +kernel
theorem dX8_goesOn_102 : decode cX8_goesOn 102 = .ok (.ifCond .eq 46, 3) := by decide +kernel
theorem dX8_goesOn_105 : decode cX8_goesOn 105 = .ok (.aload_n 0, 1) := by decide +kernel
theorem dX8_goesOn_106 : decode cX8_goesOn 106 = .ok (.invokevirtual 262, 3) := by decide +kernel
theorem dX8_goesOn_109 : decode cX8_goesOn 109 = .ok (.bipush 97, 2) := by decide +kernel
theorem dX8_goesOn_111 : decode cX8_goesOn 111 = .ok (.bipush 122, 2) := by decide +kernel
theorem dX8_goesOn_113 : decode cX8_goesOn 113 = .ok (.invokestatic 69, 3) := by decide +kernel
theorem dX8_goesOn_116 : decode cX8_goesOn 116 = .ok (.ifCond .eq 16, 3) := by decide +kernel
theorem dX8_goesOn_119 : decode cX8_goesOn 119 = .ok (.aload_n 0, 1) := by decide +kernel
theorem dX8_goesOn_120 : decode cX8_goesOn 120 = .ok (.dup, 1) := by decide +kernel
theorem dX8_goesOn_121 : decode cX8_goesOn 121 = .ok (.getfield 256, 3) := by decide +kernel
theorem dX8_goesOn_124 : decode cX8_goesOn 124 = .ok (.iconst 1, 1) := by decide +kernel
theorem dX8_goesOn_125 : decode cX8_goesOn 125 = .ok (.iadd, 1) := by decide +kernel
theorem dX8_goesOn_126 : decode cX8_goesOn 126 = .ok (.putfield 256, 3) := by decide +kernel
theorem dX8_goesOn_129 : decode cX8_goesOn 129 = .ok (.goto (-24), 3) := by decide +kernel
theorem dX8_goesOn_132 : decode cX8_goesOn 132 = .ok (.aload_n 0, 1) := by decide +kernel
theorem dX8_goesOn_133 : decode cX8_goesOn 133 = .ok (.iload_n 3, 1) := by decide +kernel
theorem dX8_goesOn_134 : decode cX8_goesOn 134 = .ok (.ifCond .eq 7, 3) := by decide +kernel
theorem dX8_goesOn_137 : decode cX8_goesOn 137 = .ok (.iconst 4, 1) := by decide +kernel
theorem dX8_goesOn_138 : decode cX8_goesOn 138 = .ok (.goto 4, 3) := by decide +kernel
theorem dX8_goesOn_141 : decode cX8_goesOn 141 = .ok (.iconst 1, 1) := by decide +kernel
theorem dX8_goesOn_142 : decode cX8_goesOn 142 = .ok (.putfield 259, 3) := by decide +kernel
theorem dX8_goesOn_145 : decode cX8_goesOn 145 = .ok (.goto 134, 3) := by decide +kernel
theorem dX8_goesOn_148 : decode cX8_goesOn 148 = .ok (.iload 4, 2) := by decide +kernel
theorem dX8_goesOn_150 : decode cX8_goesOn 150 = .ok (.bipush 48, 2) := by decide +kernel
theorem dX8_goesOn_152 : decode cX8_goesOn 152 = .ok (.bipush 57, 2) := by decide +kernel
theorem dX8_goesOn_154 : decode cX8_goesOn 154 = .ok (.invokestatic 69, 3) := by decide +kernel
theorem dX8_goesOn_157 : decode cX8_goesOn 157 = .ok (.ifCond .eq 96, 3) := by decide +kernel
theorem dX8_goesOn_160 : decode cX8_goesOn 160 = .ok (.aload_n 0, 1) := by decide +kernel
theorem dX8_goesOn_161 : decode cX8_goesOn 161 = .ok (.iconst 0, 1) := by decide +kernel
theorem dX8_goesOn_162 : decode cX8_goesOn 162 = .ok (.putfield 268, 3) := by decide +kernel
theorem dX8_goesOn_165 : decode cX8_goesOn 165 = .ok (.aload_n 0, 1) := by decide +kernel
theorem dX8_goesOn_166 : decode cX8_goesOn 166 = .ok (.invokevirtual 262, 3) := by decide +kernel
theorem dX8_goesOn_169 : decode cX8_goesOn 169 = .ok (.bipush 48, 2) := by decide +kernel
theorem dX8_goesOn_171 : decode cX8_goesOn 171 = .ok (.bipush 57, 2) := by decide +kernel
theorem dX8_goesOn_173 : decode cX8_goesOn 173 = .ok (.invokestatic 69, 3) := by decide +kernel
theorem dX8_goesOn_176 : decode cX8_goesOn 176 = .ok (.ifCond .eq 48, 3) := by decide +kernel
theorem dX8_goesOn_179 : decode cX8_goesOn 179 = .ok (.aload_n 0, 1) := by decide +kernel
theorem dX8_goesOn_180 : decode cX8_goesOn 180 = .ok (.getfield 256, 3) := by decide +kernel
theorem dX8_goesOn_183 : decode cX8_goesOn 183 = .ok (.aload_n 0, 1) := by decide +kernel
theorem dX8_goesOn_184 : decode cX8_goesOn 184 = .ok (.getfield 265, 3) := by decide +kernel
theorem dX8_goesOn_187 : decode cX8_goesOn 187 = .ok (.isub, 1) := by decide +kernel
theorem dX8_goesOn_188 : decode cX8_goesOn 188 = .ok (.iconst 5, 1) := by decide +kernel
theorem dX8_goesOn_189 : decode cX8_goesOn 189 = .ok (.if_icmp .ge 22, 3) := by decide +kernel
theorem dX8_goesOn_192 : decode cX8_goesOn 192 = .ok (.aload_n 0, 1) := by decide +kernel
theorem dX8_goesOn_193 : decode cX8_goesOn 193 = .ok (.bipush 10, 2) := by decide +kernel
theorem dX8_goesOn_195 : decode cX8_goesOn 195 = .ok (.aload_n 0, 1) := by decide +kernel
theorem dX8_goesOn_196 : decode cX8_goesOn 196 = .ok (.getfield 268, 3) := by decide +kernel
theorem dX8_goesOn_199 : decode cX8_goesOn 199 = .ok (.imul, 1) := by decide +kernel
theorem dX8_goesOn_200 : decode cX8_goesOn 200 = .ok (.aload_n 0, 1) := by decide +kernel
theorem dX8_goesOn_201 : decode cX8_goesOn 201 = .ok (.invokevirtual 262, 3) := by decide +kernel
theorem dX8_goesOn_204 : decode cX8_goesOn 204 = .ok (.iadd, 1) := by decide +kernel
theorem dX8_goesOn_205 : decode cX8_goesOn 205 = .ok (.bipush 48, 2) := by decide +kernel
theorem dX8_goesOn_207 : decode cX8_goesOn 207 = .ok (.isub, 1) := by decide +kernel
theorem dX8_goesOn_208 : decode cX8_goesOn 208 = .ok (.putfield 268, 3) := by decide +kernel
theorem dX8_goesOn_211 : decode cX8_goesOn 211 = .ok (.aload_n 0, 1) := by decide +kernel
theorem dX8_goesOn_212 : decode cX8_goesOn 212 = .ok (.dup, 1) := by decide +kernel
theorem dX8_goesOn_213 : decode cX8_goesOn 213 = .ok (.getfield 256, 3) := by decide +kernel
theorem dX8_goesOn_216 : decode cX8_goesOn 216 = .ok (.iconst 1, 1) := by decide +kernel
theorem dX8_goesOn_217 : decode cX8_goesOn 217 = .ok (.iadd, 1) := by decide +kernel
theorem dX8_goesOn_218 : decode cX8_goesOn 218 = .ok (.putfield 256, 3) := by decide +kernel
theorem dX8_goesOn_221 : decode cX8_goesOn 221 = .ok (.goto (-56), 3) := by decide +kernel
theorem dX8_goesOn_224 : decode cX8_goesOn 224 = .ok (.aload_n 0, 1) := by decide +kernel
theorem dX8_goesOn_225 : decode cX8_goesOn 225 = .ok (.iload_n 3, 1) := by decide +kernel
theorem dX8_goesOn_226 : decode cX8_goesOn 226 = .ok (.ifCond .ne 16, 3) := by decide +kernel
theorem dX8_goesOn_229 : decode cX8_goesOn 229 = .ok (.aload_n 0, 1) := by decide +kernel
theorem dX8_goesOn_230 : decode cX8_goesOn 230 = .ok (.getfield 256, 3) := by decide +kernel
theorem dX8_goesOn_233 : decode cX8_goesOn 233 = .ok (.aload_n 0, 1) := by decide +kernel
theorem dX8_goesOn_234 : decode cX8_goesOn 234 = .ok (.getfield 265, 3) := by decide +kernel
theorem dX8_goesOn_237 : decode cX8_goesOn 237 = .ok (.isub, 1) := by decide +kernel
theorem dX8_goesOn_238 : decode cX8_goesOn 238 = .ok (.iconst 5, 1) := by decide +kernel
theorem dX8_goesOn_239 : decode cX8_goesOn 239 = .ok (.if_icmp .le 7, 3) := by decide +kernel
theorem dX8_goesOn_242 : decode cX8_goesOn 242 = .ok (.iconst 4, 1) := by decide +kernel
theorem dX8_goesOn_243 : decode cX8_goesOn 243 = .ok (.goto 4, 3) := by decide +kernel
theorem dX8_goesOn_246 : decode cX8_goesOn 246 = .ok (.iconst 2, 1) := by decide +kernel
theorem dX8_goesOn_247 : decode cX8_goesOn 247 = .ok (.putfield 259, 3) := by decide +kernel
theorem dX8_goesOn_250 : decode cX8_goesOn 250 = .ok (.goto 29, 3) := by decide +kernel
theorem dX8_goesOn_253 : decode cX8_goesOn 253 = .ok (.aload_n 0, 1) := by decide +kernel
theorem dX8_goesOn_254 : decode cX8_goesOn 254 = .ok (.dup, 1) := by decide +kernel
theorem dX8_goesOn_255 : decode cX8_goesOn 255 = .ok (.getfield 256, 3) := by decide +kernel
theorem dX8_goesOn_258 : decode cX8_goesOn 258 = .ok (.iconst 1, 1) := by decide +kernel
theorem dX8_goesOn_259 : decode cX8_goesOn 259 = .ok (.iadd, 1) := by decide +kernel
theorem dX8_goesOn_260 : decode cX8_goesOn 260 = .ok (.putfield 256, 3) := by decide +kernel
theorem dX8_goesOn_263 : decode cX8_goesOn 263 = .ok (.aload_n 0, 1) := by decide +kernel
theorem dX8_goesOn_264 : decode cX8_goesOn 264 = .ok (.iload 4, 2) := by decide +kernel
theorem dX8_goesOn_266 : decode cX8_goesOn 266 = .ok (.bipush 59, 2) := by decide +kernel
theorem dX8_goesOn_268 : decode cX8_goesOn 268 = .ok (.if_icmp .ne 7, 3) := by decide +kernel
theorem dX8_goesOn_271 : decode cX8_goesOn 271 = .ok (.iconst 3, 1) := by decide +kernel
theorem dX8_goesOn_272 : decode cX8_goesOn 272 = .ok (.goto 4, 3) := by decide +kernel
theorem dX8_goesOn_275 : decode cX8_goesOn 275 = .ok (.iconst 4, 1) := by decide +kernel
theorem dX8_goesOn_276 : decode cX8_goesOn 276 = .ok (.putfield 259, 3) := by decide +kernel
theorem dX8_goesOn_279 : decode cX8_goesOn 279 = .ok (.return_, 1) := by decide +kernel
theorem dX8_takesWord_0 : decode cX8_takesWord 0 = .ok (.aload_n 0, 1) := by decide +kernel
theorem dX8_takesWord_1 : decode cX8_takesWord 1 = .ok (.getfield 271, 3) := by decide +kernel
theorem dX8_takesWord_4 : decode cX8_takesWord 4 = .ok (.ifCond .ne 11, 3) := by decide +kernel
theorem dX8_takesWord_7 : decode cX8_takesWord 7 = .ok (.aload_n 0, 1) := by decide +kernel
theorem dX8_takesWord_8 : decode cX8_takesWord 8 = .ok (.getfield 259, 3) := by decide +kernel
theorem dX8_takesWord_11 : decode cX8_takesWord 11 = .ok (.iconst 1, 1) := by decide +kernel
theorem dX8_takesWord_12 : decode cX8_takesWord 12 = .ok (.if_icmp .eq 5, 3) := by decide +kernel
theorem dX8_takesWord_15 : decode cX8_takesWord 15 = .ok (.iconst 0, 1) := by decide +kernel
theorem dX8_takesWord_16 : decode cX8_takesWord 16 = .ok (.ireturn, 1) := by decide +kernel
theorem dX8_takesWord_17 : decode cX8_takesWord 17 = .ok (.aload_n 0, 1) := by decide +kernel
theorem dX8_takesWord_18 : decode cX8_takesWord 18 = .ok (.iload_n 1, 1) := by decide +kernel
theorem dX8_takesWord_19 : decode cX8_takesWord 19 = .ok (.invokevirtual 225, 3) := by decide +kernel
theorem dX8_takesWord_22 : decode cX8_takesWord 22 = .ok (.istore_n 2, 1) := by decide +kernel
theorem dX8_takesWord_23 : decode cX8_takesWord 23 = .ok (.iconst 0, 1) := by decide +kernel
theorem dX8_takesWord_24 : decode cX8_takesWord 24 = .ok (.istore_n 3, 1) := by decide +kernel
theorem dX8_takesWord_25 : decode cX8_takesWord 25 = .ok (.aload_n 0, 1) := by decide +kernel
theorem dX8_takesWord_26 : decode cX8_takesWord 26 = .ok (.getfield 265, 3) := by decide +kernel
theorem dX8_takesWord_29 : decode cX8_takesWord 29 = .ok (.iload_n 3, 1) := by decide +kernel
theorem dX8_takesWord_30 : decode cX8_takesWord 30 = .ok (.iadd, 1) := by decide +kernel
theorem dX8_takesWord_31 : decode cX8_takesWord 31 = .ok (.aload_n 0, 1) := by decide +kernel
theorem dX8_takesWord_32 : decode cX8_takesWord 32 = .ok (.getfield 256, 3) := by decide +kernel
theorem dX8_takesWord_35 : decode cX8_takesWord 35 = .ok (.if_icmp .ge 31, 3) := by decide +kernel
theorem dX8_takesWord_38 : decode cX8_takesWord 38 = .ok (.aload_n 0, 1) := by decide +kernel
theorem dX8_takesWord_39 : decode cX8_takesWord 39 = .ok (.getfield 58, 3) := by decide +kernel
theorem dX8_takesWord_42 : decode cX8_takesWord 42 = .ok (.iload_n 2, 1) := by decide +kernel
theorem dX8_takesWord_43 : decode cX8_takesWord 43 = .ok (.iload_n 3, 1) := by decide +kernel
theorem dX8_takesWord_44 : decode cX8_takesWord 44 = .ok (.iadd, 1) := by decide +kernel
theorem dX8_takesWord_45 : decode cX8_takesWord 45 = .ok (.baload, 1) := by decide +kernel
theorem dX8_takesWord_46 : decode cX8_takesWord 46 = .ok (.aload_n 0, 1) := by decide +kernel
theorem dX8_takesWord_47 : decode cX8_takesWord 47 = .ok (.getfield 55, 3) := by decide +kernel
theorem dX8_takesWord_50 : decode cX8_takesWord 50 = .ok (.aload_n 0, 1) := by decide +kernel
theorem dX8_takesWord_51 : decode cX8_takesWord 51 = .ok (.getfield 265, 3) := by decide +kernel
theorem dX8_takesWord_54 : decode cX8_takesWord 54 = .ok (.iload_n 3, 1) := by decide +kernel
theorem dX8_takesWord_55 : decode cX8_takesWord 55 = .ok (.iadd, 1) := by decide +kernel
theorem dX8_takesWord_56 : decode cX8_takesWord 56 = .ok (.iaload, 1) := by decide +kernel
theorem dX8_takesWord_57 : decode cX8_takesWord 57 = .ok (.if_icmp .ne 9, 3) := by decide +kernel
theorem dX8_takesWord_60 : decode cX8_takesWord 60 = .ok (.iinc 3 1, 3) := by decide +kernel
theorem dX8_takesWord_63 : decode cX8_takesWord 63 = .ok (.goto (-38), 3) := by decide +kernel
theorem dX8_takesWord_66 : decode cX8_takesWord 66 = .ok (.aload_n 0, 1) := by decide +kernel
theorem dX8_takesWord_67 : decode cX8_takesWord 67 = .ok (.getfield 265, 3) := by decide +kernel
theorem dX8_takesWord_70 : decode cX8_takesWord 70 = .ok (.iload_n 3, 1) := by decide +kernel
theorem dX8_takesWord_71 : decode cX8_takesWord 71 = .ok (.iadd, 1) := by decide +kernel
theorem dX8_takesWord_72 : decode cX8_takesWord 72 = .ok (.aload_n 0, 1) := by decide +kernel
theorem dX8_takesWord_73 : decode cX8_takesWord 73 = .ok (.getfield 256, 3) := by decide +kernel
theorem dX8_takesWord_76 : decode cX8_takesWord 76 = .ok (.if_icmp .ne 14, 3) := by decide +kernel
theorem dX8_takesWord_79 : decode cX8_takesWord 79 = .ok (.aload_n 0, 1) := by decide +kernel
theorem dX8_takesWord_80 : decode cX8_takesWord 80 = .ok (.getfield 58, 3) := by decide +kernel
theorem dX8_takesWord_83 : decode cX8_takesWord 83 = .ok (.iload_n 2, 1) := by decide +kernel
theorem dX8_takesWord_84 : decode cX8_takesWord 84 = .ok (.iload_n 3, 1) := by decide +kernel
theorem dX8_takesWord_85 : decode cX8_takesWord 85 = .ok (.iadd, 1) := by decide +kernel
theorem dX8_takesWord_86 : decode cX8_takesWord 86 = .ok (.baload, 1) := by decide +kernel
theorem dX8_takesWord_87 : decode cX8_takesWord 87 = .ok (.ifCond .eq 5, 3) := by decide +kernel
theorem dX8_takesWord_90 : decode cX8_takesWord 90 = .ok (.iconst 0, 1) := by decide +kernel
theorem dX8_takesWord_91 : decode cX8_takesWord 91 = .ok (.ireturn, 1) := by decide +kernel
theorem dX8_takesWord_92 : decode cX8_takesWord 92 = .ok (.aload_n 0, 1) := by decide +kernel
theorem dX8_takesWord_93 : decode cX8_takesWord 93 = .ok (.invokevirtual 274, 3) := by decide +kernel
theorem dX8_takesWord_96 : decode cX8_takesWord 96 = .ok (.iconst 1, 1) := by decide +kernel
theorem dX8_takesWord_97 : decode cX8_takesWord 97 = .ok (.ireturn, 1) := by decide +kernel
theorem dX8_needs_0 : decode cX8_needs 0 = .ok (.aload_n 0, 1) := by decide +kernel
theorem dX8_needs_1 : decode cX8_needs 1 = .ok (.iload_n 1, 1) := by decide +kernel
theorem dX8_needs_2 : decode cX8_needs 2 = .ok (.invokevirtual 277, 3) := by decide +kernel
theorem dX8_needs_5 : decode cX8_needs 5 = .ok (.ifCond .ne 8, 3) := by decide +kernel
theorem dX8_needs_8 : decode cX8_needs 8 = .ok (.aload_n 0, 1) := by decide +kernel
theorem dX8_needs_9 : decode cX8_needs 9 = .ok (.iconst 1, 1) := by decide +kernel
theorem dX8_needs_10 : decode cX8_needs 10 = .ok (.putfield 271, 3) := by decide +kernel
theorem dX8_needs_13 : decode cX8_needs 13 = .ok (.return_, 1) := by decide +kernel
theorem dX8_needsNumber_0 : decode cX8_needsNumber 0 = .ok (.aload_n 0, 1) := by decide +kernel
theorem dX8_needsNumber_1 : decode cX8_needsNumber 1 = .ok (.getfield 271, 3) := by decide +kernel
theorem dX8_needsNumber_4 : decode cX8_needsNumber 4 = .ok (.ifCond .ne 23, 3) := by decide +kernel
theorem dX8_needsNumber_7 : decode cX8_needsNumber 7 = .ok (.aload_n 0, 1) := by decide +kernel
theorem dX8_needsNumber_8 : decode cX8_needsNumber 8 = .ok (.getfield 259, 3) := by decide +kernel
theorem dX8_needsNumber_11 : decode cX8_needsNumber 11 = .ok (.iconst 2, 1) := by decide +kernel
theorem dX8_needsNumber_12 : decode cX8_needsNumber 12 = .ok (.if_icmp .ne 15, 3) := by decide +kernel
theorem dX8_needsNumber_15 : decode cX8_needsNumber 15 = .ok (.aload_n 0, 1) := by decide +kernel
theorem dX8_needsNumber_16 : decode cX8_needsNumber 16 = .ok (.getfield 268, 3) := by decide +kernel
theorem dX8_needsNumber_19 : decode cX8_needsNumber 19 = .ok (.iload_n 1, 1) := by decide +kernel
theorem dX8_needsNumber_20 : decode cX8_needsNumber 20 = .ok (.iload_n 2, 1) := by decide +kernel
theorem dX8_needsNumber_21 : decode cX8_needsNumber 21 = .ok (.invokestatic 69, 3) := by decide +kernel
theorem dX8_needsNumber_24 : decode cX8_needsNumber 24 = .ok (.ifCond .ne 10, 3) := by decide +kernel
theorem dX8_needsNumber_27 : decode cX8_needsNumber 27 = .ok (.aload_n 0, 1) := by decide +kernel
theorem dX8_needsNumber_28 : decode cX8_needsNumber 28 = .ok (.iconst 1, 1) := by decide +kernel
theorem dX8_needsNumber_29 : decode cX8_needsNumber 29 = .ok (.putfield 271, 3) := by decide +kernel
theorem dX8_needsNumber_32 : decode cX8_needsNumber 32 = .ok (.iload_n 1, 1) := by decide +kernel
theorem dX8_needsNumber_33 : decode cX8_needsNumber 33 = .ok (.ireturn, 1) := by decide +kernel
theorem dX8_needsNumber_34 : decode cX8_needsNumber 34 = .ok (.aload_n 0, 1) := by decide +kernel
theorem dX8_needsNumber_35 : decode cX8_needsNumber 35 = .ok (.getfield 268, 3) := by decide +kernel
theorem dX8_needsNumber_38 : decode cX8_needsNumber 38 = .ok (.istore_n 3, 1) := by decide +kernel
theorem dX8_needsNumber_39 : decode cX8_needsNumber 39 = .ok (.aload_n 0, 1) := by decide +kernel
theorem dX8_needsNumber_40 : decode cX8_needsNumber 40 = .ok (.invokevirtual 274, 3) := by decide +kernel
theorem dX8_needsNumber_43 : decode cX8_needsNumber 43 = .ok (.iload_n 3, 1) := by decide +kernel
theorem dX8_needsNumber_44 : decode cX8_needsNumber 44 = .ok (.ireturn, 1) := by decide +kernel
theorem dX8_needsHouse_0 : decode cX8_needsHouse 0 = .ok (.aload_n 0, 1) := by decide +kernel
theorem dX8_needsHouse_1 : decode cX8_needsHouse 1 = .ok (.iconst 0, 1) := by decide +kernel
theorem dX8_needsHouse_2 : decode cX8_needsHouse 2 = .ok (.bipush 7, 2) := by decide +kernel
theorem dX8_needsHouse_4 : decode cX8_needsHouse 4 = .ok (.invokevirtual 280, 3) := by decide +kernel
theorem dX8_needsHouse_7 : decode cX8_needsHouse 7 = .ok (.ireturn, 1) := by decide +kernel
theorem dX8_readsBid_0 : decode cX8_readsBid 0 = .ok (.aload_n 0, 1) := by decide +kernel
theorem dX8_readsBid_1 : decode cX8_readsBid 1 = .ok (.getfield 21, 3) := by decide +kernel
theorem dX8_readsBid_4 : decode cX8_readsBid 4 = .ok (.bipush 23, 2) := by decide +kernel
theorem dX8_readsBid_6 : decode cX8_readsBid 6 = .ok (.iaload, 1) := by decide +kernel
theorem dX8_readsBid_7 : decode cX8_readsBid 7 = .ok (.bipush 30, 2) := by decide +kernel
theorem dX8_readsBid_9 : decode cX8_readsBid 9 = .ok (.if_icmp .ne 14, 3) := by decide +kernel
theorem dX8_readsBid_12 : decode cX8_readsBid 12 = .ok (.aload_n 0, 1) := by decide +kernel
theorem dX8_readsBid_13 : decode cX8_readsBid 13 = .ok (.iload_n 2, 1) := by decide +kernel
theorem dX8_readsBid_14 : decode cX8_readsBid 14 = .ok (.putfield 265, 3) := by decide +kernel
theorem dX8_readsBid_17 : decode cX8_readsBid 17 = .ok (.aload_n 0, 1) := by decide +kernel
theorem dX8_readsBid_18 : decode cX8_readsBid 18 = .ok (.iconst 1, 1) := by decide +kernel
theorem dX8_readsBid_19 : decode cX8_readsBid 19 = .ok (.putfield 271, 3) := by decide +kernel
theorem dX8_readsBid_22 : decode cX8_readsBid 22 = .ok (.return_, 1) := by decide +kernel
theorem dX8_readsBid_23 : decode cX8_readsBid 23 = .ok (.bipush 24, 2) := by decide +kernel
theorem dX8_readsBid_25 : decode cX8_readsBid 25 = .ok (.iconst 3, 1) := by decide +kernel
theorem dX8_readsBid_26 : decode cX8_readsBid 26 = .ok (.aload_n 0, 1) := by decide +kernel
theorem dX8_readsBid_27 : decode cX8_readsBid 27 = .ok (.getfield 21, 3) := by decide +kernel
theorem dX8_readsBid_30 : decode cX8_readsBid 30 = .ok (.bipush 23, 2) := by decide +kernel
theorem dX8_readsBid_32 : decode cX8_readsBid 32 = .ok (.iaload, 1) := by decide +kernel
theorem dX8_readsBid_33 : decode cX8_readsBid 33 = .ok (.imul, 1) := by decide +kernel
theorem dX8_readsBid_34 : decode cX8_readsBid 34 = .ok (.iadd, 1) := by decide +kernel
theorem dX8_readsBid_35 : decode cX8_readsBid 35 = .ok (.istore_n 3, 1) := by decide +kernel
theorem dX8_readsBid_36 : decode cX8_readsBid 36 = .ok (.aload_n 0, 1) := by decide +kernel
theorem dX8_readsBid_37 : decode cX8_readsBid 37 = .ok (.getfield 21, 3) := by decide +kernel
theorem dX8_readsBid_40 : decode cX8_readsBid 40 = .ok (.iload_n 3, 1) := by decide +kernel
theorem dX8_readsBid_41 : decode cX8_readsBid 41 = .ok (.aload_n 0, 1) := by decide +kernel
theorem dX8_readsBid_42 : decode cX8_readsBid 42 = .ok (.invokevirtual 283, 3) := by decide +kernel
theorem dX8_readsBid_45 : decode cX8_readsBid 45 = .ok (.iastore, 1) := by decide +kernel
theorem dX8_readsBid_46 : decode cX8_readsBid 46 = .ok (.aload_n 0, 1) := by decide +kernel
theorem dX8_readsBid_47 : decode cX8_readsBid 47 = .ok (.getfield 21, 3) := by decide +kernel
theorem dX8_readsBid_50 : decode cX8_readsBid 50 = .ok (.iload_n 3, 1) := by decide +kernel
theorem dX8_readsBid_51 : decode cX8_readsBid 51 = .ok (.iconst 1, 1) := by decide +kernel
theorem dX8_readsBid_52 : decode cX8_readsBid 52 = .ok (.iadd, 1) := by decide +kernel
theorem dX8_readsBid_53 : decode cX8_readsBid 53 = .ok (.iload_n 1, 1) := by decide +kernel
theorem dX8_readsBid_54 : decode cX8_readsBid 54 = .ok (.ifCond .eq 7, 3) := by decide +kernel
theorem dX8_readsBid_57 : decode cX8_readsBid 57 = .ok (.iconst (-1), 1) := by decide +kernel
theorem dX8_readsBid_58 : decode cX8_readsBid 58 = .ok (.goto 11, 3) := by decide +kernel
theorem dX8_readsBid_61 : decode cX8_readsBid 61 = .ok (.aload_n 0, 1) := by decide +kernel
theorem dX8_readsBid_62 : decode cX8_readsBid 62 = .ok (.iconst 0, 1) := by decide +kernel
theorem dX8_readsBid_63 : decode cX8_readsBid 63 = .ok (.sipush 999, 3) := by decide +kernel
theorem dX8_readsBid_66 : decode cX8_readsBid 66 = .ok (.invokevirtual 280, 3) := by decide +kernel
theorem dX8_readsBid_69 : decode cX8_readsBid 69 = .ok (.iastore, 1) := by decide +kernel
theorem dX8_readsBid_70 : decode cX8_readsBid 70 = .ok (.aload_n 0, 1) := by decide +kernel
theorem dX8_readsBid_71 : decode cX8_readsBid 71 = .ok (.bipush 11, 2) := by decide +kernel
theorem dX8_readsBid_73 : decode cX8_readsBid 73 = .ok (.invokevirtual 286, 3) := by decide +kernel
theorem dX8_readsBid_76 : decode cX8_readsBid 76 = .ok (.aload_n 0, 1) := by decide +kernel
theorem dX8_readsBid_77 : decode cX8_readsBid 77 = .ok (.getfield 21, 3) := by decide +kernel
theorem dX8_readsBid_80 : decode cX8_readsBid 80 = .ok (.iload_n 3, 1) := by decide +kernel
theorem dX8_readsBid_81 : decode cX8_readsBid 81 = .ok (.iconst 2, 1) := by decide +kernel
theorem dX8_readsBid_82 : decode cX8_readsBid 82 = .ok (.iadd, 1) := by decide +kernel
theorem dX8_readsBid_83 : decode cX8_readsBid 83 = .ok (.aload_n 0, 1) := by decide +kernel
theorem dX8_readsBid_84 : decode cX8_readsBid 84 = .ok (.iconst 1, 1) := by decide +kernel
theorem dX8_readsBid_85 : decode cX8_readsBid 85 = .ok (.sipush 1000, 3) := by decide +kernel
theorem dX8_readsBid_88 : decode cX8_readsBid 88 = .ok (.invokevirtual 280, 3) := by decide +kernel
theorem dX8_readsBid_91 : decode cX8_readsBid 91 = .ok (.iastore, 1) := by decide +kernel
theorem dX8_readsBid_92 : decode cX8_readsBid 92 = .ok (.aload_n 0, 1) := by decide +kernel
theorem dX8_readsBid_93 : decode cX8_readsBid 93 = .ok (.getfield 21, 3) := by decide +kernel
theorem dX8_readsBid_96 : decode cX8_readsBid 96 = .ok (.bipush 23, 2) := by decide +kernel
theorem dX8_readsBid_98 : decode cX8_readsBid 98 = .ok (.dup2, 1) := by decide +kernel
theorem dX8_readsBid_99 : decode cX8_readsBid 99 = .ok (.iaload, 1) := by decide +kernel
theorem dX8_readsBid_100 : decode cX8_readsBid 100 = .ok (.iconst 1, 1) := by decide +kernel
theorem dX8_readsBid_101 : decode cX8_readsBid 101 = .ok (.iadd, 1) := by decide +kernel
theorem dX8_readsBid_102 : decode cX8_readsBid 102 = .ok (.iastore, 1) := by decide +kernel
theorem dX8_readsBid_103 : decode cX8_readsBid 103 = .ok (.return_, 1) := by decide +kernel
theorem dX8_readsOne_0 : decode cX8_readsOne 0 = .ok (.aload_n 0, 1) := by decide +kernel
theorem dX8_readsOne_1 : decode cX8_readsOne 1 = .ok (.getfield 265, 3) := by decide +kernel
theorem dX8_readsOne_4 : decode cX8_readsOne 4 = .ok (.istore_n 1, 1) := by decide +kernel
theorem dX8_readsOne_5 : decode cX8_readsOne 5 = .ok (.aload_n 0, 1) := by decide +kernel
theorem dX8_readsOne_6 : decode cX8_readsOne 6 = .ok (.iconst 0, 1) := by decide +kernel
theorem dX8_readsOne_7 : decode cX8_readsOne 7 = .ok (.invokevirtual 277, 3) := by decide +kernel
theorem dX8_readsOne_10 : decode cX8_readsOne 10 = .ok (.ifCond .eq 20, 3) := by decide +kernel
theorem dX8_readsOne_13 : decode cX8_readsOne 13 = .ok (.aload_n 0, 1) := by decide +kernel
theorem dX8_readsOne_14 : decode cX8_readsOne 14 = .ok (.getfield 21, 3) := by decide +kernel
theorem dX8_readsOne_17 : decode cX8_readsOne 17 = .ok (.iconst 0, 1) := by decide +kernel
theorem dX8_readsOne_18 : decode cX8_readsOne 18 = .ok (.aload_n 0, 1) := by decide +kernel
theorem dX8_readsOne_19 : decode cX8_readsOne 19 = .ok (.iconst 1, 1) := by decide +kernel
theorem dX8_readsOne_20 : decode cX8_readsOne 20 = .ok (.sipush 2000, 3) := by decide +kernel
theorem dX8_readsOne_23 : decode cX8_readsOne 23 = .ok (.invokevirtual 280, 3) := by decide +kernel
theorem dX8_readsOne_26 : decode cX8_readsOne 26 = .ok (.iastore, 1) := by decide +kernel
theorem dX8_readsOne_27 : decode cX8_readsOne 27 = .ok (.goto 270, 3) := by decide +kernel
theorem dX8_readsOne_30 : decode cX8_readsOne 30 = .ok (.aload_n 0, 1) := by decide +kernel
theorem dX8_readsOne_31 : decode cX8_readsOne 31 = .ok (.iconst 1, 1) := by decide +kernel
theorem dX8_readsOne_32 : decode cX8_readsOne 32 = .ok (.invokevirtual 277, 3) := by decide +kernel
theorem dX8_readsOne_35 : decode cX8_readsOne 35 = .ok (.ifCond .eq 19, 3) := by decide +kernel
theorem dX8_readsOne_38 : decode cX8_readsOne 38 = .ok (.aload_n 0, 1) := by decide +kernel
theorem dX8_readsOne_39 : decode cX8_readsOne 39 = .ok (.getfield 21, 3) := by decide +kernel
theorem dX8_readsOne_42 : decode cX8_readsOne 42 = .ok (.iconst 1, 1) := by decide +kernel
theorem dX8_readsOne_43 : decode cX8_readsOne 43 = .ok (.aload_n 0, 1) := by decide +kernel
theorem dX8_readsOne_44 : decode cX8_readsOne 44 = .ok (.iconst 1, 1) := by decide +kernel
theorem dX8_readsOne_45 : decode cX8_readsOne 45 = .ok (.bipush 100, 2) := by decide +kernel
theorem dX8_readsOne_47 : decode cX8_readsOne 47 = .ok (.invokevirtual 280, 3) := by decide +kernel
theorem dX8_readsOne_50 : decode cX8_readsOne 50 = .ok (.iastore, 1) := by decide +kernel
theorem dX8_readsOne_51 : decode cX8_readsOne 51 = .ok (.goto 246, 3) := by decide +kernel
theorem dX8_readsOne_54 : decode cX8_readsOne 54 = .ok (.aload_n 0, 1) := by decide +kernel
theorem dX8_readsOne_55 : decode cX8_readsOne 55 = .ok (.iconst 2, 1) := by decide +kernel
theorem dX8_readsOne_56 : decode cX8_readsOne 56 = .ok (.invokevirtual 277, 3) := by decide +kernel
theorem dX8_readsOne_59 : decode cX8_readsOne 59 = .ok (.ifCond .eq 19, 3) := by decide +kernel
theorem dX8_readsOne_62 : decode cX8_readsOne 62 = .ok (.aload_n 0, 1) := by decide +kernel
theorem dX8_readsOne_63 : decode cX8_readsOne 63 = .ok (.getfield 21, 3) := by decide +kernel
theorem dX8_readsOne_66 : decode cX8_readsOne 66 = .ok (.iconst 2, 1) := by decide +kernel
theorem dX8_readsOne_67 : decode cX8_readsOne 67 = .ok (.aload_n 0, 1) := by decide +kernel
theorem dX8_readsOne_68 : decode cX8_readsOne 68 = .ok (.iconst 0, 1) := by decide +kernel
theorem dX8_readsOne_69 : decode cX8_readsOne 69 = .ok (.bipush 100, 2) := by decide +kernel
theorem dX8_readsOne_71 : decode cX8_readsOne 71 = .ok (.invokevirtual 280, 3) := by decide +kernel
theorem dX8_readsOne_74 : decode cX8_readsOne 74 = .ok (.iastore, 1) := by decide +kernel
theorem dX8_readsOne_75 : decode cX8_readsOne 75 = .ok (.goto 222, 3) := by decide +kernel
theorem dX8_readsOne_78 : decode cX8_readsOne 78 = .ok (.aload_n 0, 1) := by decide +kernel
theorem dX8_readsOne_79 : decode cX8_readsOne 79 = .ok (.iconst 3, 1) := by decide +kernel
theorem dX8_readsOne_80 : decode cX8_readsOne 80 = .ok (.invokevirtual 277, 3) := by decide +kernel
theorem dX8_readsOne_83 : decode cX8_readsOne 83 = .ok (.ifCond .eq 44, 3) := by decide +kernel
theorem dX8_readsOne_86 : decode cX8_readsOne 86 = .ok (.aload_n 0, 1) := by decide +kernel
theorem dX8_readsOne_87 : decode cX8_readsOne 87 = .ok (.getfield 21, 3) := by decide +kernel
theorem dX8_readsOne_90 : decode cX8_readsOne 90 = .ok (.iconst 3, 1) := by decide +kernel
theorem dX8_readsOne_91 : decode cX8_readsOne 91 = .ok (.aload_n 0, 1) := by decide +kernel
theorem dX8_readsOne_92 : decode cX8_readsOne 92 = .ok (.iconst 0, 1) := by decide +kernel
theorem dX8_readsOne_93 : decode cX8_readsOne 93 = .ok (.sipush 999, 3) := by decide +kernel
theorem dX8_readsOne_96 : decode cX8_readsOne 96 = .ok (.invokevirtual 280, 3) := by decide +kernel
theorem dX8_readsOne_99 : decode cX8_readsOne 99 = .ok (.iastore, 1) := by decide +kernel
theorem dX8_readsOne_100 : decode cX8_readsOne 100 = .ok (.aload_n 0, 1) := by decide +kernel
theorem dX8_readsOne_101 : decode cX8_readsOne 101 = .ok (.iconst 4, 1) := by decide +kernel
theorem dX8_readsOne_102 : decode cX8_readsOne 102 = .ok (.invokevirtual 286, 3) := by decide +kernel
theorem dX8_readsOne_105 : decode cX8_readsOne 105 = .ok (.aload_n 0, 1) := by decide +kernel
theorem dX8_readsOne_106 : decode cX8_readsOne 106 = .ok (.getfield 21, 3) := by decide +kernel
theorem dX8_readsOne_109 : decode cX8_readsOne 109 = .ok (.iconst 4, 1) := by decide +kernel
theorem dX8_readsOne_110 : decode cX8_readsOne 110 = .ok (.aload_n 0, 1) := by decide +kernel
theorem dX8_readsOne_111 : decode cX8_readsOne 111 = .ok (.aload_n 0, 1) := by decide +kernel
theorem dX8_readsOne_112 : decode cX8_readsOne 112 = .ok (.getfield 21, 3) := by decide +kernel
theorem dX8_readsOne_115 : decode cX8_readsOne 115 = .ok (.iconst 3, 1) := by decide +kernel
theorem dX8_readsOne_116 : decode cX8_readsOne 116 = .ok (.iaload, 1) := by decide +kernel
theorem dX8_readsOne_117 : decode cX8_readsOne 117 = .ok (.sipush 999, 3) := by decide +kernel
theorem dX8_readsOne_120 : decode cX8_readsOne 120 = .ok (.invokevirtual 280, 3) := by decide +kernel
theorem dX8_readsOne_123 : decode cX8_readsOne 123 = .ok (.iastore, 1) := by decide +kernel
theorem dX8_readsOne_124 : decode cX8_readsOne 124 = .ok (.goto 173, 3) := by decide +kernel
theorem dX8_readsOne_127 : decode cX8_readsOne 127 = .ok (.aload_n 0, 1) := by decide +kernel
theorem dX8_readsOne_128 : decode cX8_readsOne 128 = .ok (.iconst 5, 1) := by decide +kernel
theorem dX8_readsOne_129 : decode cX8_readsOne 129 = .ok (.invokevirtual 277, 3) := by decide +kernel
theorem dX8_readsOne_132 : decode cX8_readsOne 132 = .ok (.ifCond .eq 20, 3) := by decide +kernel
theorem dX8_readsOne_135 : decode cX8_readsOne 135 = .ok (.aload_n 0, 1) := by decide +kernel
theorem dX8_readsOne_136 : decode cX8_readsOne 136 = .ok (.getfield 21, 3) := by decide +kernel
theorem dX8_readsOne_139 : decode cX8_readsOne 139 = .ok (.iconst 5, 1) := by decide +kernel
theorem dX8_readsOne_140 : decode cX8_readsOne 140 = .ok (.aload_n 0, 1) := by decide +kernel
theorem dX8_readsOne_141 : decode cX8_readsOne 141 = .ok (.iconst 1, 1) := by decide +kernel
theorem dX8_readsOne_142 : decode cX8_readsOne 142 = .ok (.sipush 360, 3) := by decide +kernel
theorem dX8_readsOne_145 : decode cX8_readsOne 145 = .ok (.invokevirtual 280, 3) := by decide +kernel
theorem dX8_readsOne_148 : decode cX8_readsOne 148 = .ok (.iastore, 1) := by decide +kernel
theorem dX8_readsOne_149 : decode cX8_readsOne 149 = .ok (.goto 148, 3) := by decide +kernel
theorem dX8_readsOne_152 : decode cX8_readsOne 152 = .ok (.aload_n 0, 1) := by decide +kernel
theorem dX8_readsOne_153 : decode cX8_readsOne 153 = .ok (.bipush 6, 2) := by decide +kernel
theorem dX8_readsOne_155 : decode cX8_readsOne 155 = .ok (.invokevirtual 277, 3) := by decide +kernel
theorem dX8_readsOne_158 : decode cX8_readsOne 158 = .ok (.ifCond .eq 14, 3) := by decide +kernel
theorem dX8_readsOne_161 : decode cX8_readsOne 161 = .ok (.aload_n 0, 1) := by decide +kernel
theorem dX8_readsOne_162 : decode cX8_readsOne 162 = .ok (.getfield 21, 3) := by decide +kernel
theorem dX8_readsOne_165 : decode cX8_readsOne 165 = .ok (.bipush 6, 2) := by decide +kernel
theorem dX8_readsOne_167 : decode cX8_readsOne 167 = .ok (.iconst 0, 1) := by decide +kernel
theorem dX8_readsOne_168 : decode cX8_readsOne 168 = .ok (.iastore, 1) := by decide +kernel
theorem dX8_readsOne_169 : decode cX8_readsOne 169 = .ok (.goto 128, 3) := by decide +kernel
theorem dX8_readsOne_172 : decode cX8_readsOne 172 = .ok (.aload_n 0, 1) := by decide +kernel
theorem dX8_readsOne_173 : decode cX8_readsOne 173 = .ok (.bipush 7, 2) := by decide +kernel
theorem dX8_readsOne_175 : decode cX8_readsOne 175 = .ok (.invokevirtual 277, 3) := by decide +kernel
theorem dX8_readsOne_178 : decode cX8_readsOne 178 = .ok (.ifCond .eq 14, 3) := by decide +kernel
theorem dX8_readsOne_181 : decode cX8_readsOne 181 = .ok (.aload_n 0, 1) := by decide +kernel
theorem dX8_readsOne_182 : decode cX8_readsOne 182 = .ok (.getfield 21, 3) := by decide +kernel
theorem dX8_readsOne_185 : decode cX8_readsOne 185 = .ok (.bipush 6, 2) := by decide +kernel
theorem dX8_readsOne_187 : decode cX8_readsOne 187 = .ok (.iconst 1, 1) := by decide +kernel
theorem dX8_readsOne_188 : decode cX8_readsOne 188 = .ok (.iastore, 1) := by decide +kernel
theorem dX8_readsOne_189 : decode cX8_readsOne 189 = .ok (.goto 108, 3) := by decide +kernel
theorem dX8_readsOne_192 : decode cX8_readsOne 192 = .ok (.aload_n 0, 1) := by decide +kernel
theorem dX8_readsOne_193 : decode cX8_readsOne 193 = .ok (.bipush 8, 2) := by decide +kernel
theorem dX8_readsOne_195 : decode cX8_readsOne 195 = .ok (.invokevirtual 277, 3) := by decide +kernel
theorem dX8_readsOne_198 : decode cX8_readsOne 198 = .ok (.ifCond .eq 28, 3) := by decide +kernel
theorem dX8_readsOne_201 : decode cX8_readsOne 201 = .ok (.aload_n 0, 1) := by decide +kernel
theorem dX8_readsOne_202 : decode cX8_readsOne 202 = .ok (.invokevirtual 283, 3) := by decide +kernel
theorem dX8_readsOne_205 : decode cX8_readsOne 205 = .ok (.istore_n 2, 1) := by decide +kernel
theorem dX8_readsOne_206 : decode cX8_readsOne 206 = .ok (.aload_n 0, 1) := by decide +kernel
theorem dX8_readsOne_207 : decode cX8_readsOne 207 = .ok (.getfield 21, 3) := by decide +kernel
theorem dX8_readsOne_210 : decode cX8_readsOne 210 = .ok (.bipush 7, 2) := by decide +kernel
theorem dX8_readsOne_212 : decode cX8_readsOne 212 = .ok (.iload_n 2, 1) := by decide +kernel
theorem dX8_readsOne_213 : decode cX8_readsOne 213 = .ok (.iadd, 1) := by decide +kernel
theorem dX8_readsOne_214 : decode cX8_readsOne 214 = .ok (.aload_n 0, 1) := by decide +kernel
theorem dX8_readsOne_215 : decode cX8_readsOne 215 = .ok (.iconst 0, 1) := by decide +kernel
theorem dX8_readsOne_216 : decode cX8_readsOne 216 = .ok (.sipush 9999, 3) := by decide +kernel
theorem dX8_readsOne_219 : decode cX8_readsOne 219 = .ok (.invokevirtual 280, 3) := by decide +kernel
theorem dX8_readsOne_222 : decode cX8_readsOne 222 = .ok (.iastore, 1) := by decide +kernel
theorem dX8_readsOne_223 : decode cX8_readsOne 223 = .ok (.goto 74, 3) := by decide +kernel
theorem dX8_readsOne_226 : decode cX8_readsOne 226 = .ok (.aload_n 0, 1) := by decide +kernel
theorem dX8_readsOne_227 : decode cX8_readsOne 227 = .ok (.bipush 9, 2) := by decide +kernel
theorem dX8_readsOne_229 : decode cX8_readsOne 229 = .ok (.invokevirtual 277, 3) := by decide +kernel
theorem dX8_readsOne_232 : decode cX8_readsOne 232 = .ok (.ifCond .eq 24, 3) := by decide +kernel
theorem dX8_readsOne_235 : decode cX8_readsOne 235 = .ok (.aload_n 0, 1) := by decide +kernel
theorem dX8_readsOne_236 : decode cX8_readsOne 236 = .ok (.invokevirtual 283, 3) := by decide +kernel
theorem dX8_readsOne_239 : decode cX8_readsOne 239 = .ok (.istore_n 2, 1) := by decide +kernel
theorem dX8_readsOne_240 : decode cX8_readsOne 240 = .ok (.aload_n 0, 1) := by decide +kernel
theorem dX8_readsOne_241 : decode cX8_readsOne 241 = .ok (.getfield 21, 3) := by decide +kernel
theorem dX8_readsOne_244 : decode cX8_readsOne 244 = .ok (.bipush 15, 2) := by decide +kernel
theorem dX8_readsOne_246 : decode cX8_readsOne 246 = .ok (.iload_n 2, 1) := by decide +kernel
theorem dX8_readsOne_247 : decode cX8_readsOne 247 = .ok (.iadd, 1) := by decide +kernel
theorem dX8_readsOne_248 : decode cX8_readsOne 248 = .ok (.aload_n 0, 1) := by decide +kernel
theorem dX8_readsOne_249 : decode cX8_readsOne 249 = .ok (.invokevirtual 283, 3) := by decide +kernel
theorem dX8_readsOne_252 : decode cX8_readsOne 252 = .ok (.iastore, 1) := by decide +kernel
theorem dX8_readsOne_253 : decode cX8_readsOne 253 = .ok (.goto 44, 3) := by decide +kernel
theorem dX8_readsOne_256 : decode cX8_readsOne 256 = .ok (.aload_n 0, 1) := by decide +kernel
theorem dX8_readsOne_257 : decode cX8_readsOne 257 = .ok (.bipush 10, 2) := by decide +kernel
theorem dX8_readsOne_259 : decode cX8_readsOne 259 = .ok (.invokevirtual 277, 3) := by decide +kernel
theorem dX8_readsOne_262 : decode cX8_readsOne 262 = .ok (.ifCond .eq 12, 3) := by decide +kernel
theorem dX8_readsOne_265 : decode cX8_readsOne 265 = .ok (.aload_n 0, 1) := by decide +kernel
theorem dX8_readsOne_266 : decode cX8_readsOne 266 = .ok (.iconst 0, 1) := by decide +kernel
theorem dX8_readsOne_267 : decode cX8_readsOne 267 = .ok (.iload_n 1, 1) := by decide +kernel
theorem dX8_readsOne_268 : decode cX8_readsOne 268 = .ok (.invokevirtual 289, 3) := by decide +kernel
theorem dX8_readsOne_271 : decode cX8_readsOne 271 = .ok (.goto 26, 3) := by decide +kernel
theorem dX8_readsOne_274 : decode cX8_readsOne 274 = .ok (.aload_n 0, 1) := by decide +kernel
theorem dX8_readsOne_275 : decode cX8_readsOne 275 = .ok (.bipush 12, 2) := by decide +kernel
theorem dX8_readsOne_277 : decode cX8_readsOne 277 = .ok (.invokevirtual 277, 3) := by decide +kernel
theorem dX8_readsOne_280 : decode cX8_readsOne 280 = .ok (.ifCond .eq 12, 3) := by decide +kernel
theorem dX8_readsOne_283 : decode cX8_readsOne 283 = .ok (.aload_n 0, 1) := by decide +kernel
theorem dX8_readsOne_284 : decode cX8_readsOne 284 = .ok (.iconst 1, 1) := by decide +kernel
theorem dX8_readsOne_285 : decode cX8_readsOne 285 = .ok (.iload_n 1, 1) := by decide +kernel
theorem dX8_readsOne_286 : decode cX8_readsOne 286 = .ok (.invokevirtual 289, 3) := by decide +kernel
theorem dX8_readsOne_289 : decode cX8_readsOne 289 = .ok (.goto 8, 3) := by decide +kernel
theorem dX8_readsOne_292 : decode cX8_readsOne 292 = .ok (.aload_n 0, 1) := by decide +kernel
theorem dX8_readsOne_293 : decode cX8_readsOne 293 = .ok (.iconst 1, 1) := by decide +kernel
theorem dX8_readsOne_294 : decode cX8_readsOne 294 = .ok (.putfield 271, 3) := by decide +kernel
theorem dX8_readsOne_297 : decode cX8_readsOne 297 = .ok (.aload_n 0, 1) := by decide +kernel
theorem dX8_readsOne_298 : decode cX8_readsOne 298 = .ok (.getfield 271, 3) := by decide +kernel
theorem dX8_readsOne_301 : decode cX8_readsOne 301 = .ok (.ifCond .eq 4, 3) := by decide +kernel
theorem dX8_readsOne_304 : decode cX8_readsOne 304 = .ok (.return_, 1) := by decide +kernel
theorem dX8_readsOne_305 : decode cX8_readsOne 305 = .ok (.aload_n 0, 1) := by decide +kernel
theorem dX8_readsOne_306 : decode cX8_readsOne 306 = .ok (.getfield 259, 3) := by decide +kernel
theorem dX8_readsOne_309 : decode cX8_readsOne 309 = .ok (.iconst 3, 1) := by decide +kernel
theorem dX8_readsOne_310 : decode cX8_readsOne 310 = .ok (.if_icmp .ne 10, 3) := by decide +kernel
theorem dX8_readsOne_313 : decode cX8_readsOne 313 = .ok (.aload_n 0, 1) := by decide +kernel
theorem dX8_readsOne_314 : decode cX8_readsOne 314 = .ok (.invokevirtual 274, 3) := by decide +kernel
theorem dX8_readsOne_317 : decode cX8_readsOne 317 = .ok (.goto 8, 3) := by decide +kernel
theorem dX8_readsOne_320 : decode cX8_readsOne 320 = .ok (.aload_n 0, 1) := by decide +kernel
theorem dX8_readsOne_321 : decode cX8_readsOne 321 = .ok (.iconst 1, 1) := by decide +kernel
theorem dX8_readsOne_322 : decode cX8_readsOne 322 = .ok (.putfield 271, 3) := by decide +kernel
theorem dX8_readsOne_325 : decode cX8_readsOne 325 = .ok (.return_, 1) := by decide +kernel
theorem dX8_text_0 : decode cX8_text 0 = .ok (.aload_n 0, 1) := by decide +kernel
theorem dX8_text_1 : decode cX8_text 1 = .ok (.getfield 21, 3) := by decide +kernel
theorem dX8_text_4 : decode cX8_text 4 = .ok (.invokestatic 62, 3) := by decide +kernel
theorem dX8_text_7 : decode cX8_text 7 = .ok (.aload_n 0, 1) := by decide +kernel
theorem dX8_text_8 : decode cX8_text 8 = .ok (.iconst 0, 1) := by decide +kernel
theorem dX8_text_9 : decode cX8_text 9 = .ok (.putfield 256, 3) := by decide +kernel
theorem dX8_text_12 : decode cX8_text 12 = .ok (.aload_n 0, 1) := by decide +kernel
theorem dX8_text_13 : decode cX8_text 13 = .ok (.iconst 3, 1) := by decide +kernel
theorem dX8_text_14 : decode cX8_text 14 = .ok (.putfield 259, 3) := by decide +kernel
theorem dX8_text_17 : decode cX8_text 17 = .ok (.aload_n 0, 1) := by decide +kernel
theorem dX8_text_18 : decode cX8_text 18 = .ok (.iconst 0, 1) := by decide +kernel
theorem dX8_text_19 : decode cX8_text 19 = .ok (.putfield 271, 3) := by decide +kernel
theorem dX8_text_22 : decode cX8_text 22 = .ok (.aload_n 0, 1) := by decide +kernel
theorem dX8_text_23 : decode cX8_text 23 = .ok (.invokevirtual 274, 3) := by decide +kernel
theorem dX8_text_26 : decode cX8_text 26 = .ok (.aload_n 0, 1) := by decide +kernel
theorem dX8_text_27 : decode cX8_text 27 = .ok (.getfield 271, 3) := by decide +kernel
theorem dX8_text_30 : decode cX8_text 30 = .ok (.ifCond .ne 17, 3) := by decide +kernel
theorem dX8_text_33 : decode cX8_text 33 = .ok (.aload_n 0, 1) := by decide +kernel
theorem dX8_text_34 : decode cX8_text 34 = .ok (.getfield 259, 3) := by decide +kernel
theorem dX8_text_37 : decode cX8_text 37 = .ok (.ifCond .eq 10, 3) := by decide +kernel
theorem dX8_text_40 : decode cX8_text 40 = .ok (.aload_n 0, 1) := by decide +kernel
theorem dX8_text_41 : decode cX8_text 41 = .ok (.invokevirtual 293, 3) := by decide +kernel
theorem dX8_text_44 : decode cX8_text 44 = .ok (.goto (-18), 3) := by decide +kernel
theorem dX8_text_47 : decode cX8_text 47 = .ok (.aload_n 0, 1) := by decide +kernel
theorem dX8_text_48 : decode cX8_text 48 = .ok (.iconst 0, 1) := by decide +kernel
theorem dX8_text_49 : decode cX8_text 49 = .ok (.putfield 250, 3) := by decide +kernel
theorem dX8_text_52 : decode cX8_text 52 = .ok (.aload_n 0, 1) := by decide +kernel
theorem dX8_text_53 : decode cX8_text 53 = .ok (.getfield 271, 3) := by decide +kernel
theorem dX8_text_56 : decode cX8_text 56 = .ok (.ifCond .eq 11, 3) := by decide +kernel
theorem dX8_text_59 : decode cX8_text 59 = .ok (.bipush (-4), 2) := by decide +kernel
theorem dX8_text_61 : decode cX8_text 61 = .ok (.aload_n 0, 1) := by decide +kernel
theorem dX8_text_62 : decode cX8_text 62 = .ok (.getfield 265, 3) := by decide +kernel
theorem dX8_text_65 : decode cX8_text 65 = .ok (.isub, 1) := by decide +kernel
theorem dX8_text_66 : decode cX8_text 66 = .ok (.ireturn, 1) := by decide +kernel
theorem dX8_text_67 : decode cX8_text 67 = .ok (.iconst 0, 1) := by decide +kernel
theorem dX8_text_68 : decode cX8_text 68 = .ok (.istore_n 1, 1) := by decide +kernel
theorem dX8_text_69 : decode cX8_text 69 = .ok (.iload_n 1, 1) := by decide +kernel
theorem dX8_text_70 : decode cX8_text 70 = .ok (.sipush 139, 3) := by decide +kernel
theorem dX8_text_73 : decode cX8_text 73 = .ok (.if_icmp .ge 21, 3) := by decide +kernel
theorem dX8_text_76 : decode cX8_text 76 = .ok (.aload_n 0, 1) := by decide +kernel
theorem dX8_text_77 : decode cX8_text 77 = .ok (.getfield 13, 3) := by decide +kernel
theorem dX8_text_80 : decode cX8_text 80 = .ok (.iload_n 1, 1) := by decide +kernel
theorem dX8_text_81 : decode cX8_text 81 = .ok (.aload_n 0, 1) := by decide +kernel
theorem dX8_text_82 : decode cX8_text 82 = .ok (.getfield 21, 3) := by decide +kernel
theorem dX8_text_85 : decode cX8_text 85 = .ok (.iload_n 1, 1) := by decide +kernel
theorem dX8_text_86 : decode cX8_text 86 = .ok (.iaload, 1) := by decide +kernel
theorem dX8_text_87 : decode cX8_text 87 = .ok (.iastore, 1) := by decide +kernel
theorem dX8_text_88 : decode cX8_text 88 = .ok (.iinc 1 1, 3) := by decide +kernel
theorem dX8_text_91 : decode cX8_text 91 = .ok (.goto (-22), 3) := by decide +kernel
theorem dX8_text_94 : decode cX8_text 94 = .ok (.aload_n 0, 1) := by decide +kernel
theorem dX8_text_95 : decode cX8_text 95 = .ok (.iconst 0, 1) := by decide +kernel
theorem dX8_text_96 : decode cX8_text 96 = .ok (.putfield 66, 3) := by decide +kernel
theorem dX8_text_99 : decode cX8_text 99 = .ok (.aload_n 0, 1) := by decide +kernel
theorem dX8_text_100 : decode cX8_text 100 = .ok (.invokevirtual 73, 3) := by decide +kernel
theorem dX8_text_103 : decode cX8_text 103 = .ok (.ireturn, 1) := by decide +kernel
